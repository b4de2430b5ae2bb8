def F_X9_in_18 (a0 : Int64) (a2 : Int64) (a4 : Int64) (s0 : Int32) : Int32 :=
  s0
theorem V_X9_in_18  {I : WI} {L : WL} {a0 : Int64} {a2 : Int64} {a4 : Int64} {s0 : Int32} {P : Int32 → Prop} {t : Tg} (hs0 : bz s0 = s0) (hr : ∀ v, P v → t = (some (.int v), ly0, I, L, R0)) (kk : P (F_X9_in_18 a0 a2 a4 s0)) : V (zM x_X9_in 1 0 0 t) 18 [(0, .long a0), (2, .long a2), (4, .long a4)] [.int s0] ly0 I L R0 0 0 :=
  V_iret (tat ok_X9_in_0 (i := 11) (q := 19) rfl rfl) _ rfl (bz_nf hs0).1 (hr s0 (jx (P := P) kk rfl)) ⟨(Nat.le_of_ble_eq_true rfl), (Nat.le_of_ble_eq_true rfl)⟩
def F_X9_in_17 (a0 : Int64) (a2 : Int64) (a4 : Int64) : Int32 :=
  (F_X9_in_18 a0 a2 a4 0)
theorem V_X9_in_17  {I : WI} {L : WL} {a0 : Int64} {a2 : Int64} {a4 : Int64}  {P : Int32 → Prop} {t : Tg} (hr : ∀ v, P v → t = (some (.int v), ly0, I, L, R0)) (kk : P (F_X9_in_17 a0 a2 a4)) : V (zM x_X9_in 1 0 0 t) 17 [(0, .long a0), (2, .long a2), (4, .long a4)] [] ly0 I L R0 0 0 :=
  V_iconst (tat ok_X9_in_0 (i := 10) (q := 18) rfl rfl) ic_0 <|
    V_X9_in_18 rfl hr (jx (P := P) kk rfl)
def F_X9_in (a0 : Int64) (a2 : Int64) (a4 : Int64) : Int32 :=
  (if (lg_cmp a0 a2) < 0 then (F_X9_in_17 a0 a2 a4) else (if 0 < (lg_cmp a0 a4) then (F_X9_in_17 a0 a2 a4) else (F_X9_in_18 a0 a2 a4 1)))
theorem V_X9_in  {I : WI} {L : WL} {a0 : Int64} {a2 : Int64} {a4 : Int64}  {P : Int32 → Prop} {t : Tg} (hr : ∀ v, P v → t = (some (.int v), ly0, I, L, R0)) (kk : P (F_X9_in a0 a2 a4)) : V (zM x_X9_in 1 0 0 t) 0 [(0, .long a0), (2, .long a2), (4, .long a4)] [] ly0 I L R0 0 0 :=
  V_lload_n (tat ok_X9_in_0 (i := 0) (q := 1) rfl rfl) 0 rfl rfl <|
    V_lload_n (tat ok_X9_in_0 (i := 1) (q := 2) rfl rfl) 1 rfl rfl <|
    V_lcmp (tat ok_X9_in_0 (i := 2) (q := 3) rfl rfl) <|
    V_if_lt (tat ok_X9_in_0 (i := 3) (q := 6) rfl rfl) rfl (fun c1 => V_X9_in_17  hr (jx (P := P) kk (if_pos c1))) (fun c1 => V_lload_n (tat ok_X9_in_0 (i := 4) (q := 7) rfl rfl) 0 rfl rfl <|
    V_lload (tat ok_X9_in_0 (i := 5) (q := 9) rfl rfl) 2 rfl <|
    V_lcmp (tat ok_X9_in_0 (i := 6) (q := 10) rfl rfl) <|
    V_if_gt (tat ok_X9_in_0 (i := 7) (q := 13) rfl rfl) rfl (fun c2 => V_X9_in_17  hr (jx (P := P) kk (Eq.trans (if_neg c1) (if_pos c2)))) (fun c2 => V_iconst (tat ok_X9_in_0 (i := 8) (q := 14) rfl rfl) ic_1 <|
    V_goto (tat ok_X9_in_0 (i := 9) (q := 17) rfl rfl) rfl <|
    V_X9_in_18 rfl hr (jx (P := P) kk (Eq.trans (if_neg c1) (if_neg c2)))))
theorem ct_X9_in  (I : WI) (L : WL) (a0 : Int64) (a2 : Int64) (a4 : Int64)  : Ct x_X9_in 1 [.long a0, .long a2, .long a4] ly0 I L R0 0 0 (some (.int (F_X9_in a0 a2 a4)), ly0, I, L, R0) :=
  Ct_of_V mo_X9_in.1 (Nat.le_of_ble_eq_true rfl) (V_X9_in (P := fun x => x = (F_X9_in a0 a2 a4))  (fun _ e => by rw [e]) rfl)
def F_X9_flag_9 (a0 : Int32) (s0 : Int32) : Int32 :=
  s0
theorem V_X9_flag_9  {I : WI} {L : WL} {a0 : Int32} {s0 : Int32} {P : Int32 → Prop} {t : Tg} (hs0 : bz s0 = s0) (hr : ∀ v, P v → t = (some (.int v), ly0, I, L, R0)) (kk : P (F_X9_flag_9 a0 s0)) : V (zM x_X9_flag 1 0 0 t) 9 [(0, .int a0)] [.int s0] ly0 I L R0 0 0 :=
  V_iret (tat ok_X9_flag_0 (i := 5) (q := 10) rfl rfl) _ rfl (nar_int _) (hr s0 (jx (P := P) kk rfl)) ⟨(Nat.le_of_ble_eq_true rfl), (Nat.le_of_ble_eq_true rfl)⟩
def F_X9_flag (a0 : Int32) : Int32 :=
  (if a0 = 0 then (F_X9_flag_9 a0 0) else (F_X9_flag_9 a0 1))
theorem V_X9_flag  {I : WI} {L : WL} {a0 : Int32}  {P : Int32 → Prop} {t : Tg} (hr : ∀ v, P v → t = (some (.int v), ly0, I, L, R0)) (kk : P (F_X9_flag a0)) : V (zM x_X9_flag 1 0 0 t) 0 [(0, .int a0)] [] ly0 I L R0 0 0 :=
  V_iload_n (tat ok_X9_flag_0 (i := 0) (q := 1) rfl rfl) 0 rfl rfl <|
    V_if_eq (tat ok_X9_flag_0 (i := 1) (q := 4) rfl rfl) rfl (fun c1 => V_iconst (tat ok_X9_flag_0 (i := 4) (q := 9) rfl rfl) ic_0 <|
    V_X9_flag_9 rfl hr (jx (P := P) kk (if_pos c1))) (fun c1 => V_iconst (tat ok_X9_flag_0 (i := 2) (q := 5) rfl rfl) ic_1 <|
    V_goto (tat ok_X9_flag_0 (i := 3) (q := 8) rfl rfl) rfl <|
    V_X9_flag_9 rfl hr (jx (P := P) kk (if_neg c1)))
theorem ct_X9_flag  (I : WI) (L : WL) (a0 : Int32)  : Ct x_X9_flag 1 [.int a0] ly0 I L R0 0 0 (some (.int (F_X9_flag a0)), ly0, I, L, R0) :=
  Ct_of_V mo_X9_flag.1 (Nat.le_of_ble_eq_true rfl) (V_X9_flag (P := fun x => x = (F_X9_flag a0))  (fun _ e => by rw [e]) rfl)
def F_X9_bitOf (a0 : Int32) (a1 : Int32) : Int64 :=
  (lsh 1 ((8 * a0) + a1))
theorem V_X9_bitOf  {I : WI} {L : WL} {a0 : Int32} {a1 : Int32}  {P : Int64 → Prop} {t : Tg} (hr : ∀ v, P v → t = (some (.long v), ly0, I, L, R0)) (kk : P (F_X9_bitOf a0 a1)) : V (zM x_X9_bitOf 1 0 0 t) 0 [(0, .int a0), (1, .int a1)] [] ly0 I L R0 0 0 :=
  V_lconst (v := 1) (tat ok_X9_bitOf_0 (i := 0) (q := 1) rfl rfl) rfl <|
    V_bipush (tat ok_X9_bitOf_0 (i := 1) (q := 3) rfl rfl) bp_8 <|
    V_iload_n (tat ok_X9_bitOf_0 (i := 2) (q := 4) rfl rfl) 0 rfl rfl <|
    V_imul (tat ok_X9_bitOf_0 (i := 3) (q := 5) rfl rfl) <|
    V_iload_n (tat ok_X9_bitOf_0 (i := 4) (q := 6) rfl rfl) 1 rfl rfl <|
    V_iadd (tat ok_X9_bitOf_0 (i := 5) (q := 7) rfl rfl) <|
    V_lshl (tat ok_X9_bitOf_0 (i := 6) (q := 8) rfl rfl) <|
    V_lret (tat ok_X9_bitOf_0 (i := 7) (q := 9) rfl rfl) rfl (hr (lsh 1 ((8 * a0) + a1)) (jx (P := P) kk rfl)) ⟨(Nat.le_of_ble_eq_true rfl), (Nat.le_of_ble_eq_true rfl)⟩
theorem ct_X9_bitOf  (I : WI) (L : WL) (a0 : Int32) (a1 : Int32)  : Ct x_X9_bitOf 1 [.int a0, .int a1] ly0 I L R0 0 0 (some (.long (F_X9_bitOf a0 a1)), ly0, I, L, R0) :=
  Ct_of_V mo_X9_bitOf.1 (Nat.le_of_ble_eq_true rfl) (V_X9_bitOf (P := fun x => x = (F_X9_bitOf a0 a1))  (fun _ e => by rw [e]) rfl)
def F_X9_many_10_1 (a0 : Int64) (a3 : Int32) (a2 : Int32) : Int32 :=
  (a2 + (Int64.toInt32 ((lsr a0 a3) &&& 1)))
theorem V_X9_many_10_1  {I : WI} {L : WL} {a0 : Int64} {a3 : Int32} {a2 : Int32} {P : Int32 → Prop} {t : Tg} (hk : ∀ x : Int32, P x → V (zM x_X9_many 1 0 0 t) 4 [(0, .long a0), (2, .int x), (3, .int (a3 + 1))] [] ly0 I L R0 0 0) (kk : P (F_X9_many_10_1 a0 a3 a2)) : V (zM x_X9_many 1 0 0 t) 10 [(0, .long a0), (2, .int a2), (3, .int a3)] [] ly0 I L R0 0 0 :=
  V_iload_n (tat ok_X9_many_0 (i := 7) (q := 11) rfl rfl) 1 rfl rfl <|
    V_lload_n (tat ok_X9_many_0 (i := 8) (q := 12) rfl rfl) 0 rfl rfl <|
    V_iload_n (tat ok_X9_many_0 (i := 9) (q := 13) rfl rfl) 2 rfl rfl <|
    V_lshr (tat ok_X9_many_0 (i := 10) (q := 14) rfl rfl) <|
    V_lconst (v := 1) (tat ok_X9_many_0 (i := 11) (q := 15) rfl rfl) rfl <|
    V_land (tat ok_X9_many_0 (i := 12) (q := 16) rfl rfl) <|
    V_l2i (tat ok_X9_many_0 (i := 13) (q := 17) rfl rfl) <|
    V_iadd (tat ok_X9_many_0 (i := 14) (q := 18) rfl rfl) <|
    V_istore_n (lv' := [(2, .int (a2 + (Int64.toInt32 ((lsr a0 a3) &&& 1)))), (0, .long a0), (3, .int a3)]) (tat ok_X9_many_0 (i := 15) (q := 19) rfl rfl) rfl (Nat.le_of_ble_eq_true rfl) rfl <|
    V_iinc (v := (a3 + 1)) (lv' := [(3, .int (a3 + 1)), (2, .int (a2 + (Int64.toInt32 ((lsr a0 a3) &&& 1)))), (0, .long a0)]) (tat ok_X9_many_0 (i := 16) (q := 22) rfl rfl) 2 rfl (ia ic_1) (Nat.le_of_ble_eq_true rfl) rfl <|
    V_goto (tat ok_X9_many_0 (i := 17) (q := 25) rfl rfl) rfl <|
    V_pick [2, 1, 0] rfl (hk (a2 + (Int64.toInt32 ((lsr a0 a3) &&& 1))) (jx (P := P) kk rfl))
def F_X9_many_25 (a0 : Int64) (a2 : Int32) : Int32 :=
  a2
theorem V_X9_many_25  {I : WI} {L : WL} {a0 : Int64} {a2 : Int32} {P : Int32 → Prop} {t : Tg} (hr : ∀ v, P v → t = (some (.int v), ly0, I, L, R0)) (kk : P (F_X9_many_25 a0 a2)) : V (zM x_X9_many 1 0 0 t) 25 [(0, .long a0), (2, .int a2)] [] ly0 I L R0 0 0 :=
  V_iload_n (tat ok_X9_many_0 (i := 18) (q := 26) rfl rfl) 1 rfl rfl <|
    V_iret (tat ok_X9_many_0 (i := 19) (q := 27) rfl rfl) _ rfl (nar_int _) (hr a2 (jx (P := P) kk rfl)) ⟨(Nat.le_of_ble_eq_true rfl), (Nat.le_of_ble_eq_true rfl)⟩
def F_X9_many_4 (a0 : Int64) (a2 : Int32) (a3 : Int32) : Int32 :=
  (fun q : Int32 × Int32 => (F_X9_many_25 a0 (p2 q))) (fr0 (fun i x => (F_X9_many_10_1 a0 i x)) 64 (fu a3 64) a3 a2)
theorem V_X9_many_4  {I : WI} {L : WL} {a0 : Int64} {a2 : Int32} {a3 : Int32} {P : Int32 → Prop} {t : Tg} (hb2 : bz a2 = a2) (hb3 : bz a3 = a3) (hr : ∀ v, P v → t = (some (.int v), ly0, I, L, R0)) (kk : P (F_X9_many_4 a0 a2 a3)) : V (zM x_X9_many 1 0 0 t) 4 [(0, .long a0), (2, .int a2), (3, .int a3)] [] ly0 I L R0 0 0 :=
  V_fr0 (fun i x => (F_X9_many_10_1 a0 i x)) 64 (fun i x => V (zM x_X9_many 1 0 0 t) 4 [(0, .long a0), (2, .int x), (3, .int i)] [] ly0 I L R0 0 0) (fun i x => P ((F_X9_many_25 a0 x))) (c := a3) (s := a2) (fun i x kx kb => V_iload_n (tat ok_X9_many_0 (i := 4) (q := 5) rfl rfl) 2 rfl rfl <|
    V_bipush (tat ok_X9_many_0 (i := 5) (q := 7) rfl rfl) bp_64 <|
    V_icmp_ge (tat ok_X9_many_0 (i := 6) (q := 10) rfl rfl) rfl (fun c0 => V_pick [0, 1] rfl (V_X9_many_25  hr (kx c0))) (fun c0 => V_X9_many_10_1 (P := (fun x => (fun i x => V (zM x_X9_many 1 0 0 t) 4 [(0, .long a0), (2, .int x), (3, .int i)] [] ly0 I L R0 0 0) (i + 1) x))  (fun _ e => e) (kb c0))) kk
def F_X9_many (a0 : Int64) : Int32 :=
  (F_X9_many_4 a0 0 0)
theorem V_X9_many  {I : WI} {L : WL} {a0 : Int64}  {P : Int32 → Prop} {t : Tg} (hr : ∀ v, P v → t = (some (.int v), ly0, I, L, R0)) (kk : P (F_X9_many a0)) : V (zM x_X9_many 1 0 0 t) 0 [(0, .long a0)] [] ly0 I L R0 0 0 :=
  V_iconst (tat ok_X9_many_0 (i := 0) (q := 1) rfl rfl) ic_0 <|
    V_istore_n (lv' := [(2, .int 0), (0, .long a0)]) (tat ok_X9_many_0 (i := 1) (q := 2) rfl rfl) rfl (Nat.le_of_ble_eq_true rfl) rfl <|
    V_iconst (tat ok_X9_many_0 (i := 2) (q := 3) rfl rfl) ic_0 <|
    V_istore_n (lv' := [(3, .int 0), (2, .int 0), (0, .long a0)]) (tat ok_X9_many_0 (i := 3) (q := 4) rfl rfl) rfl (Nat.le_of_ble_eq_true rfl) rfl <|
    V_pick [2, 1, 0] rfl (V_X9_many_4 rfl rfl hr (jx (P := P) kk rfl))
theorem ct_X9_many  (I : WI) (L : WL) (a0 : Int64)  : Ct x_X9_many 1 [.long a0] ly0 I L R0 0 0 (some (.int (F_X9_many a0)), ly0, I, L, R0) :=
  Ct_of_V mo_X9_many.1 (Nat.le_of_ble_eq_true rfl) (V_X9_many (P := fun x => x = (F_X9_many a0))  (fun _ e => by rw [e]) rfl)
def F_X9_firstDraft (I : WI) (L : WL) : (WI × WL) :=
  ((u2 (u2 (u2 (u2 (u2 I 33 10 4) 33 11 4) 33 16 0) 33 17 0) 33 18 0), (u2 (u2 L 33 12 0) 33 15 0))
theorem V_X9_firstDraft  {I : WI} {L : WL}   {P : (WI × WL) → Prop} {t : Tg} (hr : ∀ v, P v → t = (none, ly0, (p1 v), (p2 v), R0)) (kk : P (F_X9_firstDraft I L)) : V (zM x_X9_firstDraft 1 0 0 t) 0 [(0, .ref 33)] [] ly0 I L R0 0 0 :=
  V_aload_n (tat ok_X9_firstDraft_0 (i := 0) (q := 1) rfl rfl) 0 rfl rfl <|
    V_iconst (tat ok_X9_firstDraft_0 (i := 1) (q := 2) rfl rfl) ic_4 <|
    V_putI (tat ok_X9_firstDraft_0 (i := 2) (q := 5) rfl rfl) fk_X9_50 rfl rfl <|
    V_aload_n (tat ok_X9_firstDraft_0 (i := 3) (q := 6) rfl rfl) 0 rfl rfl <|
    V_iconst (tat ok_X9_firstDraft_0 (i := 4) (q := 7) rfl rfl) ic_4 <|
    V_putI (tat ok_X9_firstDraft_0 (i := 5) (q := 10) rfl rfl) fk_X9_54 rfl rfl <|
    V_aload_n (tat ok_X9_firstDraft_0 (i := 6) (q := 11) rfl rfl) 0 rfl rfl <|
    V_lconst (v := 0) (tat ok_X9_firstDraft_0 (i := 7) (q := 12) rfl rfl) rfl <|
    V_putL (tat ok_X9_firstDraft_0 (i := 8) (q := 15) rfl rfl) fk_X9_57 rfl rfl <|
    V_aload_n (tat ok_X9_firstDraft_0 (i := 9) (q := 16) rfl rfl) 0 rfl rfl <|
    V_lconst (v := 0) (tat ok_X9_firstDraft_0 (i := 10) (q := 17) rfl rfl) rfl <|
    V_putL (tat ok_X9_firstDraft_0 (i := 11) (q := 20) rfl rfl) fk_X9_61 rfl rfl <|
    V_aload_n (tat ok_X9_firstDraft_0 (i := 12) (q := 21) rfl rfl) 0 rfl rfl <|
    V_iconst (tat ok_X9_firstDraft_0 (i := 13) (q := 22) rfl rfl) ic_0 <|
    V_putZ (tat ok_X9_firstDraft_0 (i := 14) (q := 25) rfl rfl) fk_X9_64 rfl rfl rfl <|
    V_aload_n (tat ok_X9_firstDraft_0 (i := 15) (q := 26) rfl rfl) 0 rfl rfl <|
    V_iconst (tat ok_X9_firstDraft_0 (i := 16) (q := 27) rfl rfl) ic_0 <|
    V_putZ (tat ok_X9_firstDraft_0 (i := 17) (q := 30) rfl rfl) fk_X9_68 rfl rfl rfl <|
    V_aload_n (tat ok_X9_firstDraft_0 (i := 18) (q := 31) rfl rfl) 0 rfl rfl <|
    V_iconst (tat ok_X9_firstDraft_0 (i := 19) (q := 32) rfl rfl) ic_0 <|
    V_putI (tat ok_X9_firstDraft_0 (i := 20) (q := 35) rfl rfl) fk_X9_71 rfl rfl <|
    V_vret (tat ok_X9_firstDraft_0 (i := 21) (q := 36) rfl rfl) rfl (hr ((u2 (u2 (u2 (u2 (u2 I 33 10 4) 33 11 4) 33 16 0) 33 17 0) 33 18 0), (u2 (u2 L 33 12 0) 33 15 0)) (jx (P := P) kk rfl)) ⟨(Nat.le_of_ble_eq_true rfl), (Nat.le_of_ble_eq_true rfl)⟩
theorem ct_X9_firstDraft  (I : WI) (L : WL)  : Ct x_X9_firstDraft 1 [.ref 33] ly0 I L R0 0 0 (none, ly0, (p1 (F_X9_firstDraft I L)), (p2 (F_X9_firstDraft I L)), R0) :=
  Ct_of_V mo_X9_firstDraft.1 (Nat.le_of_ble_eq_true rfl) (V_X9_firstDraft (P := fun x => x = (F_X9_firstDraft I L))  (fun _ e => by rw [e]) rfl)
def F_X9_keepDraft_56_1 (I : WI) (L : WL) (a1 : Int32) : Option WI :=
  (if a1 < 0 ∨ 48 ≤ Int32.toNatClampNeg a1 then none else (if a1 < 0 ∨ 48 ≤ Int32.toNatClampNeg a1 then none else some (u2 I 34 (Int32.toNatClampNeg a1) (I 38 (Int32.toNatClampNeg a1)))))
theorem V_X9_keepDraft_56_1  {I : WI} {L : WL} {a1 : Int32}  {P : WI → Prop} {t : Tg} (hk : ∀ x : WI, P x → V (zM x_X9_keepDraft 1 0 0 t) 50 [(0, .ref 33), (1, .int (a1 + 1))] [] ly0 x L R0 0 0) : oP P (F_X9_keepDraft_56_1 I L a1) → V (zM x_X9_keepDraft 1 0 0 t) 56 [(0, .ref 33), (1, .int a1)] [] ly0 I L R0 0 0 :=
  fun _ =>
  have kq : (oP P (F_X9_keepDraft_56_1 I L a1)) ∧ True := ⟨by assumption, trivial⟩
  V_aload_n (tat ok_X9_keepDraft_0 (i := 29) (q := 57) rfl rfl) 0 rfl rfl <|
    V_getR (tat ok_X9_keepDraft_0 (i := 30) (q := 60) rfl rfl) fk_X9_7 rfl rfl <|
    V_iload_n (tat ok_X9_keepDraft_0 (i := 31) (q := 61) rfl rfl) 1 rfl rfl <|
    V_aload_n (tat ok_X9_keepDraft_0 (i := 32) (q := 62) rfl rfl) 0 rfl rfl <|
    V_getR (tat ok_X9_keepDraft_0 (i := 33) (q := 65) rfl rfl) fk_X9_23 rfl rfl <|
    V_iload_n (tat ok_X9_keepDraft_0 (i := 34) (q := 66) rfl rfl) 1 rfl rfl <|
    (if c1 : a1 < 0 ∨ 48 ≤ Int32.toNatClampNeg a1 then ((jq (P := oP P) kq (if_pos c1))).elim else V_iald (tat ok_X9_keepDraft_0 (i := 35) (q := 67) rfl rfl) rfl c1 <|
    (if c2 : a1 < 0 ∨ 48 ≤ Int32.toNatClampNeg a1 then ((jq (P := oP P) kq (Eq.trans (if_neg c1) (if_pos c2)))).elim else V_iast (tat ok_X9_keepDraft_0 (i := 36) (q := 68) rfl rfl) rfl c2 <|
    V_iinc (v := (a1 + 1)) (lv' := [(1, .int (a1 + 1)), (0, .ref 33)]) (tat ok_X9_keepDraft_0 (i := 37) (q := 71) rfl rfl) 1 rfl (ia ic_1) (Nat.le_of_ble_eq_true rfl) rfl <|
    V_goto (tat ok_X9_keepDraft_0 (i := 38) (q := 74) rfl rfl) rfl <|
    V_pick [1, 0] rfl (hk (u2 I 34 (Int32.toNatClampNeg a1) (I 38 (Int32.toNatClampNeg a1))) (jq (P := oP P) kq (Eq.trans (if_neg c1) (if_neg c2))))))
def F_X9_keepDraft_74 (I : WI) (L : WL) : Option (WI × WL) :=
  some ((u2 (u2 I 36 (Int32.toNatClampNeg 0) 0) 36 (Int32.toNatClampNeg 1) 0), L)
theorem V_X9_keepDraft_74  {I : WI} {L : WL}   {P : (WI × WL) → Prop} {t : Tg} (hr : ∀ v, P v → t = (none, ly0, (p1 v), (p2 v), R0)) : oP P (F_X9_keepDraft_74 I L) → V (zM x_X9_keepDraft 1 0 0 t) 74 [(0, .ref 33)] [] ly0 I L R0 0 0 :=
  fun _ =>
  have kq : (oP P (F_X9_keepDraft_74 I L)) ∧ True := ⟨by assumption, trivial⟩
  V_aload_n (tat ok_X9_keepDraft_0 (i := 39) (q := 75) rfl rfl) 0 rfl rfl <|
    V_getR (tat ok_X9_keepDraft_1 (i := 0) (q := 78) rfl rfl) fk_X9_17 rfl rfl <|
    V_iconst (tat ok_X9_keepDraft_1 (i := 1) (q := 79) rfl rfl) ic_0 <|
    V_iconst (tat ok_X9_keepDraft_1 (i := 2) (q := 80) rfl rfl) ic_0 <|
    V_iast (tat ok_X9_keepDraft_1 (i := 3) (q := 81) rfl rfl) rfl (vp_in_nI (n := 0) (by decide) (by decide)) <|
    V_aload_n (tat ok_X9_keepDraft_1 (i := 4) (q := 82) rfl rfl) 0 rfl rfl <|
    V_getR (tat ok_X9_keepDraft_1 (i := 5) (q := 85) rfl rfl) fk_X9_17 rfl rfl <|
    V_iconst (tat ok_X9_keepDraft_1 (i := 6) (q := 86) rfl rfl) ic_1 <|
    V_iconst (tat ok_X9_keepDraft_1 (i := 7) (q := 87) rfl rfl) ic_0 <|
    V_iast (tat ok_X9_keepDraft_1 (i := 8) (q := 88) rfl rfl) rfl (vp_in_nI (n := 1) (by decide) (by decide)) <|
    V_vret (tat ok_X9_keepDraft_1 (i := 9) (q := 89) rfl rfl) rfl (hr ((u2 (u2 I 36 (Int32.toNatClampNeg 0) 0) 36 (Int32.toNatClampNeg 1) 0), L) (jq (P := oP P) kq rfl)) ⟨(Nat.le_of_ble_eq_true rfl), (Nat.le_of_ble_eq_true rfl)⟩
def F_X9_keepDraft_50 (I : WI) (L : WL)  (a1 : Int32) : Option (WI × WL) :=
  (frp0 (fun i x => (F_X9_keepDraft_56_1 x L i)) 48 (fu a1 48) a1 I).bind (fun q => (F_X9_keepDraft_74 (p2 q) L))
theorem V_X9_keepDraft_50  {I : WI} {L : WL}  {a1 : Int32} {P : (WI × WL) → Prop} {t : Tg} (hb1 : bz a1 = a1) (hr : ∀ v, P v → t = (none, ly0, (p1 v), (p2 v), R0)) (kk : oP P (F_X9_keepDraft_50 I L a1)) : V (zM x_X9_keepDraft 1 0 0 t) 50 [(0, .ref 33), (1, .int a1)] [] ly0 I L R0 0 0 :=
  V_frp0 (fun i x => (F_X9_keepDraft_56_1 x L i)) 48 (fun i x => V (zM x_X9_keepDraft 1 0 0 t) 50 [(0, .ref 33), (1, .int i)] [] ly0 x L R0 0 0) (fun i x => oP P ((F_X9_keepDraft_74 x L))) (c := a1) (s := I) (fun i x kx kb => V_iload_n (tat ok_X9_keepDraft_0 (i := 26) (q := 51) rfl rfl) 1 rfl rfl <|
    V_bipush (tat ok_X9_keepDraft_0 (i := 27) (q := 53) rfl rfl) bp_48 <|
    V_icmp_ge (tat ok_X9_keepDraft_0 (i := 28) (q := 56) rfl rfl) rfl (fun c0 => V_pick [0] rfl (V_X9_keepDraft_74  hr (kx c0))) (fun c0 => V_X9_keepDraft_56_1 (P := (fun x => (fun i x => V (zM x_X9_keepDraft 1 0 0 t) 50 [(0, .ref 33), (1, .int i)] [] ly0 x L R0 0 0) (i + 1) x))  (fun _ e => e) (kb c0))) (oP_bind (f := fun q => _) kk)
def F_X9_keepDraft (I : WI) (L : WL) : Option (WI × WL) :=
  (F_X9_keepDraft_50 (u2 (u2 (u2 (u2 I 33 0 (I 33 10)) 33 1 ((u2 I 33 0 (I 33 10)) 33 11)) 33 4 (bz ((u2 (u2 I 33 0 (I 33 10)) 33 1 ((u2 I 33 0 (I 33 10)) 33 11)) 33 17))) 33 5 ((u2 (u2 (u2 I 33 0 (I 33 10)) 33 1 ((u2 I 33 0 (I 33 10)) 33 11)) 33 4 (bz ((u2 (u2 I 33 0 (I 33 10)) 33 1 ((u2 I 33 0 (I 33 10)) 33 11)) 33 17))) 33 18)) (u2 (u2 L 33 2 (L 33 12)) 33 3 ((u2 L 33 2 (L 33 12)) 33 15)) 0)
theorem V_X9_keepDraft  {I : WI} {L : WL}   {P : (WI × WL) → Prop} {t : Tg} (hr : ∀ v, P v → t = (none, ly0, (p1 v), (p2 v), R0)) : oP P (F_X9_keepDraft I L) → V (zM x_X9_keepDraft 1 0 0 t) 0 [(0, .ref 33)] [] ly0 I L R0 0 0 :=
  fun _ =>
  have kq : (oP P (F_X9_keepDraft I L)) ∧ True := ⟨by assumption, trivial⟩
  V_aload_n (tat ok_X9_keepDraft_0 (i := 0) (q := 1) rfl rfl) 0 rfl rfl <|
    V_aload_n (tat ok_X9_keepDraft_0 (i := 1) (q := 2) rfl rfl) 0 rfl rfl <|
    V_getI (tat ok_X9_keepDraft_0 (i := 2) (q := 5) rfl rfl) fk_X9_50 rfl <|
    V_putI (tat ok_X9_keepDraft_0 (i := 3) (q := 8) rfl rfl) fk_X9_74 rfl rfl <|
    V_aload_n (tat ok_X9_keepDraft_0 (i := 4) (q := 9) rfl rfl) 0 rfl rfl <|
    V_aload_n (tat ok_X9_keepDraft_0 (i := 5) (q := 10) rfl rfl) 0 rfl rfl <|
    V_getI (tat ok_X9_keepDraft_0 (i := 6) (q := 13) rfl rfl) fk_X9_54 rfl <|
    V_putI (tat ok_X9_keepDraft_0 (i := 7) (q := 16) rfl rfl) fk_X9_77 rfl rfl <|
    V_aload_n (tat ok_X9_keepDraft_0 (i := 8) (q := 17) rfl rfl) 0 rfl rfl <|
    V_aload_n (tat ok_X9_keepDraft_0 (i := 9) (q := 18) rfl rfl) 0 rfl rfl <|
    V_getL (tat ok_X9_keepDraft_0 (i := 10) (q := 21) rfl rfl) fk_X9_57 rfl <|
    V_putL (tat ok_X9_keepDraft_0 (i := 11) (q := 24) rfl rfl) fk_X9_80 rfl rfl <|
    V_aload_n (tat ok_X9_keepDraft_0 (i := 12) (q := 25) rfl rfl) 0 rfl rfl <|
    V_aload_n (tat ok_X9_keepDraft_0 (i := 13) (q := 26) rfl rfl) 0 rfl rfl <|
    V_getL (tat ok_X9_keepDraft_0 (i := 14) (q := 29) rfl rfl) fk_X9_61 rfl <|
    V_putL (tat ok_X9_keepDraft_0 (i := 15) (q := 32) rfl rfl) fk_X9_83 rfl rfl <|
    V_aload_n (tat ok_X9_keepDraft_0 (i := 16) (q := 33) rfl rfl) 0 rfl rfl <|
    V_aload_n (tat ok_X9_keepDraft_0 (i := 17) (q := 34) rfl rfl) 0 rfl rfl <|
    V_getZ (tat ok_X9_keepDraft_0 (i := 18) (q := 37) rfl rfl) fk_X9_68 rfl <|
    V_putZ (tat ok_X9_keepDraft_0 (i := 19) (q := 40) rfl rfl) fk_X9_86 rfl rfl (bz_bz _) <|
    V_aload_n (tat ok_X9_keepDraft_0 (i := 20) (q := 41) rfl rfl) 0 rfl rfl <|
    V_aload_n (tat ok_X9_keepDraft_0 (i := 21) (q := 42) rfl rfl) 0 rfl rfl <|
    V_getI (tat ok_X9_keepDraft_0 (i := 22) (q := 45) rfl rfl) fk_X9_71 rfl <|
    V_putI (tat ok_X9_keepDraft_0 (i := 23) (q := 48) rfl rfl) fk_X9_89 rfl rfl <|
    V_iconst (tat ok_X9_keepDraft_0 (i := 24) (q := 49) rfl rfl) ic_0 <|
    V_istore_n (lv' := [(1, .int 0), (0, .ref 33)]) (tat ok_X9_keepDraft_0 (i := 25) (q := 50) rfl rfl) rfl (Nat.le_of_ble_eq_true rfl) rfl <|
    V_pick [1, 0] rfl (V_X9_keepDraft_50 rfl hr (jq (P := oP P) kq rfl))
theorem ct_X9_keepDraft  (I : WI) (L : WL)  {v : (WI × WL)} (h : (F_X9_keepDraft I L) = some v) : Ct x_X9_keepDraft 1 [.ref 33] ly0 I L R0 0 0 (none, ly0, (p1 v), (p2 v), R0) :=
  Ct_of_V mo_X9_keepDraft.1 (Nat.le_of_ble_eq_true rfl) (V_X9_keepDraft (P := fun x => x = v)  (fun _ e => by rw [e]) (by rw [h]; exact rfl))
def F_X9_feed_19_1 (I : WI) (a1 : Int64) (a3 : Int32) : Option (WI ⊕ (Int32 × WI)) :=
  (if a3 < 0 then some (.inl I) else (if (I 33 21) < 0 ∨ 320 ≤ Int32.toNatClampNeg (I 33 21) then none else some (.inr ((a3 + (-8)), (u2 (u2 I 39 (Int32.toNatClampNeg (I 33 21)) (Int64.toInt32 ((lsr a1 a3) &&& 255))) 33 21 (((u2 I 39 (Int32.toNatClampNeg (I 33 21)) (Int64.toInt32 ((lsr a1 a3) &&& 255))) 33 21) + 1))))))
theorem V_X9_feed_19_1  {I : WI} {L : WL} {a1 : Int64} {a3 : Int32} {P : (WI ⊕ (Int32 × WI)) → Prop} {t : Tg} (he : ∀ x : WI, P (.inl x) → V (zM x_X9_feed 1 0 0 t) 56 [(0, .ref 33), (1, .long a1)] [] ly0 x L R0 0 0) (hk : ∀ x : (Int32 × WI), P (.inr x) → V (zM x_X9_feed 1 0 0 t) 19 [(0, .ref 33), (1, .long a1), (3, .int (p1 x))] [] ly0 (p2 x) L R0 0 0) : oP P (F_X9_feed_19_1 I a1 a3) → V (zM x_X9_feed 1 0 0 t) 19 [(0, .ref 33), (1, .long a1), (3, .int a3)] [] ly0 I L R0 0 0 :=
  fun _ =>
  have kq : (oP P (F_X9_feed_19_1 I a1 a3)) ∧ True := ⟨by assumption, trivial⟩
  V_iload_n (tat ok_X9_feed_0 (i := 10) (q := 20) rfl rfl) 2 rfl rfl <|
    V_if_lt (tat ok_X9_feed_0 (i := 11) (q := 23) rfl rfl) rfl (fun c2 => V_pick [0, 1] rfl (he I (jq (P := oP P) kq (if_pos c2)))) (fun c2 => V_aload_n (tat ok_X9_feed_0 (i := 12) (q := 24) rfl rfl) 0 rfl rfl <|
    V_getR (tat ok_X9_feed_0 (i := 13) (q := 27) rfl rfl) fk_X9_26 rfl rfl <|
    V_aload_n (tat ok_X9_feed_0 (i := 14) (q := 28) rfl rfl) 0 rfl rfl <|
    V_getI (tat ok_X9_feed_0 (i := 15) (q := 31) rfl rfl) fk_X9_92 rfl <|
    V_lload_n (tat ok_X9_feed_0 (i := 16) (q := 32) rfl rfl) 1 rfl rfl <|
    V_iload_n (tat ok_X9_feed_0 (i := 17) (q := 33) rfl rfl) 2 rfl rfl <|
    V_lshr (tat ok_X9_feed_0 (i := 18) (q := 34) rfl rfl) <|
    V_ldc2 (tat ok_X9_feed_0 (i := 19) (q := 37) rfl rfl) (gw_in kl_X9_95 rfl) <|
    V_land (tat ok_X9_feed_0 (i := 20) (q := 38) rfl rfl) <|
    V_l2i (tat ok_X9_feed_0 (i := 21) (q := 39) rfl rfl) <|
    (if c3 : (I 33 21) < 0 ∨ 320 ≤ Int32.toNatClampNeg (I 33 21) then ((jq (P := oP P) kq (Eq.trans (if_neg c2) (if_pos c3)))).elim else V_iast (tat ok_X9_feed_0 (i := 22) (q := 40) rfl rfl) rfl c3 <|
    V_aload_n (tat ok_X9_feed_0 (i := 23) (q := 41) rfl rfl) 0 rfl rfl <|
    V_dup (tat ok_X9_feed_0 (i := 24) (q := 42) rfl rfl) rfl <|
    V_getI (tat ok_X9_feed_0 (i := 25) (q := 45) rfl rfl) fk_X9_92 rfl <|
    V_iconst (tat ok_X9_feed_0 (i := 26) (q := 46) rfl rfl) ic_1 <|
    V_iadd (tat ok_X9_feed_0 (i := 27) (q := 47) rfl rfl) <|
    V_putI (tat ok_X9_feed_0 (i := 28) (q := 50) rfl rfl) fk_X9_92 rfl rfl <|
    V_iinc (v := (a3 + (-8))) (lv' := [(3, .int (a3 + (-8))), (0, .ref 33), (1, .long a1)]) (tat ok_X9_feed_0 (i := 29) (q := 53) rfl rfl) 2 rfl (ia ic_m8) (Nat.le_of_ble_eq_true rfl) rfl <|
    V_goto (tat ok_X9_feed_0 (i := 30) (q := 56) rfl rfl) rfl <|
    V_pick [1, 2, 0] rfl (hk ((a3 + (-8)), (u2 (u2 I 39 (Int32.toNatClampNeg (I 33 21)) (Int64.toInt32 ((lsr a1 a3) &&& 255))) 33 21 (((u2 I 39 (Int32.toNatClampNeg (I 33 21)) (Int64.toInt32 ((lsr a1 a3) &&& 255))) 33 21) + 1))) (jq (P := oP P) kq (Eq.trans (if_neg c2) (if_neg c3))))))
def F_X9_feed_56 (I : WI) (a1 : Int64) : Option (Int32 × WI) :=
  some ((I 33 21), I)
theorem V_X9_feed_56  {I : WI} {L : WL} {a1 : Int64}  {P : (Int32 × WI) → Prop} {t : Tg} (hr : ∀ v, P v → t = (some (.int (p1 v)), ly0, (p2 v), L, R0)) : oP P (F_X9_feed_56 I a1) → V (zM x_X9_feed 1 0 0 t) 56 [(0, .ref 33), (1, .long a1)] [] ly0 I L R0 0 0 :=
  fun _ =>
  have kq : (oP P (F_X9_feed_56 I a1)) ∧ True := ⟨by assumption, trivial⟩
  V_aload_n (tat ok_X9_feed_0 (i := 31) (q := 57) rfl rfl) 0 rfl rfl <|
    V_getI (tat ok_X9_feed_0 (i := 32) (q := 60) rfl rfl) fk_X9_92 rfl <|
    V_iret (tat ok_X9_feed_0 (i := 33) (q := 61) rfl rfl) _ rfl (nar_int _) (hr ((I 33 21), I) (jq (P := oP P) kq rfl)) ⟨(Nat.le_of_ble_eq_true rfl), (Nat.le_of_ble_eq_true rfl)⟩
def F_X9_feed_19 (I : WI) (a1 : Int64) (a3 : Int32) : Option (Int32 × WI) :=
  (lpp (fun x => (F_X9_feed_19_1 (p2 x) a1 (p1 x))) 4294967296 (a3, I)).bind (fun q => (F_X9_feed_56 q a1))
theorem V_X9_feed_19  {I : WI} {L : WL} {a1 : Int64} {a3 : Int32} {P : (Int32 × WI) → Prop} {t : Tg} (hr : ∀ v, P v → t = (some (.int (p1 v)), ly0, (p2 v), L, R0)) (kk : oP P (F_X9_feed_19 I a1 a3)) : V (zM x_X9_feed 1 0 0 t) 19 [(0, .ref 33), (1, .long a1), (3, .int a3)] [] ly0 I L R0 0 0 :=
  V_lpp (fun x => (F_X9_feed_19_1 (p2 x) a1 (p1 x))) (fun x => V (zM x_X9_feed 1 0 0 t) 19 [(0, .ref 33), (1, .long a1), (3, .int (p1 x))] [] ly0 (p2 x) L R0 0 0) (fun x => oP P ((F_X9_feed_56 x a1))) (s := (a3, I)) (fun x e0 => V_X9_feed_19_1 (P := Sum.elim (fun x => oP P ((F_X9_feed_56 x a1))) (fun x => V (zM x_X9_feed 1 0 0 t) 19 [(0, .ref 33), (1, .long a1), (3, .int (p1 x))] [] ly0 (p2 x) L R0 0 0))  (fun x e => V_X9_feed_56  hr e) (fun _ e => e) e0) (oP_bind (f := fun q => _) kk)
def F_X9_feed (I : WI) (a1 : Int64) : Option (Int32 × WI) :=
  (if ((I 33 21) + 8) ≤ 320 then (F_X9_feed_19 I a1 56) else some ((-3), I))
theorem V_X9_feed  {I : WI} {L : WL} {a1 : Int64}  {P : (Int32 × WI) → Prop} {t : Tg} (hr : ∀ v, P v → t = (some (.int (p1 v)), ly0, (p2 v), L, R0)) : oP P (F_X9_feed I a1) → V (zM x_X9_feed 1 0 0 t) 0 [(0, .ref 33), (1, .long a1)] [] ly0 I L R0 0 0 :=
  fun _ =>
  have kq : (oP P (F_X9_feed I a1)) ∧ True := ⟨by assumption, trivial⟩
  V_aload_n (tat ok_X9_feed_0 (i := 0) (q := 1) rfl rfl) 0 rfl rfl <|
    V_getI (tat ok_X9_feed_0 (i := 1) (q := 4) rfl rfl) fk_X9_92 rfl <|
    V_bipush (tat ok_X9_feed_0 (i := 2) (q := 6) rfl rfl) bp_8 <|
    V_iadd (tat ok_X9_feed_0 (i := 3) (q := 7) rfl rfl) <|
    V_sipush (tat ok_X9_feed_0 (i := 4) (q := 10) rfl rfl) sp_320 <|
    V_icmp_le (tat ok_X9_feed_0 (i := 5) (q := 13) rfl rfl) rfl (fun c1 => V_bipush (tat ok_X9_feed_0 (i := 8) (q := 18) rfl rfl) bp_56 <|
    V_istore_n (lv' := [(3, .int 56), (0, .ref 33), (1, .long a1)]) (tat ok_X9_feed_0 (i := 9) (q := 19) rfl rfl) rfl (Nat.le_of_ble_eq_true rfl) rfl <|
    V_pick [1, 2, 0] rfl (V_X9_feed_19  hr (jq (P := oP P) kq (if_pos c1)))) (fun c1 => V_bipush (tat ok_X9_feed_0 (i := 6) (q := 15) rfl rfl) bp_m3 <|
    V_iret (tat ok_X9_feed_0 (i := 7) (q := 16) rfl rfl) _ rfl (nar_int _) (hr ((-3), I) (jq (P := oP P) kq (if_neg c1))) ⟨(Nat.le_of_ble_eq_true rfl), (Nat.le_of_ble_eq_true rfl)⟩)
theorem ct_X9_feed  (I : WI) (L : WL) (a1 : Int64)  {v : (Int32 × WI)} (h : (F_X9_feed I a1) = some v) : Ct x_X9_feed 1 [.ref 33, .long a1] ly0 I L R0 0 0 (some (.int (p1 v)), ly0, (p2 v), L, R0) :=
  Ct_of_V mo_X9_feed.1 (Nat.le_of_ble_eq_true rfl) (V_X9_feed (P := fun x => x = v)  (fun _ e => by rw [e]) (by rw [h]; exact rfl))
def F_X9_end (I : WI) (a1 : Int32) : (Int32 × WI) :=
  (if (F_X9_in (Int32.toInt64 a1) 0 (Int32.toInt64 (I 33 21))) = 0 then ((-1), I) else ((I 33 21), (u2 I 33 21 a1)))
theorem V_X9_end  {I : WI} {L : WL} {a1 : Int32}  {P : (Int32 × WI) → Prop} {t : Tg} (hr : ∀ v, P v → t = (some (.int (p1 v)), ly0, (p2 v), L, R0)) (kk : P (F_X9_end I a1)) : V (zM x_X9_end 2 0 0 t) 0 [(0, .ref 33), (1, .int a1)] [] ly0 I L R0 0 0 :=
  V_iload_n (tat ok_X9_end_0 (i := 0) (q := 1) rfl rfl) 1 rfl rfl <|
    V_i2l (tat ok_X9_end_0 (i := 1) (q := 2) rfl rfl) <|
    V_lconst (v := 0) (tat ok_X9_end_0 (i := 2) (q := 3) rfl rfl) rfl <|
    V_aload_n (tat ok_X9_end_0 (i := 3) (q := 4) rfl rfl) 0 rfl rfl <|
    V_getI (tat ok_X9_end_0 (i := 4) (q := 7) rfl rfl) fk_X9_92 rfl <|
    V_i2l (tat ok_X9_end_0 (i := 5) (q := 8) rfl rfl) <|
    V_cs3 (ct_X9_in I L (Int32.toInt64 a1) 0 (Int32.toInt64 (I 33 21)) ) mo_X9_in (tat ok_X9_end_0 (i := 6) (q := 11) rfl rfl) ml_X9_97 ⟨(Nat.le_of_ble_eq_true rfl), (Nat.le_of_ble_eq_true rfl)⟩ ⟨(Nat.le_of_ble_eq_true rfl), (Nat.le_of_ble_eq_true rfl)⟩ (Nat.le_of_ble_eq_true rfl) <|
    V_if_ne (tat ok_X9_end_0 (i := 7) (q := 14) rfl rfl) rfl (fun c1 => V_aload_n (tat ok_X9_end_0 (i := 10) (q := 17) rfl rfl) 0 rfl rfl <|
    V_getI (tat ok_X9_end_0 (i := 11) (q := 20) rfl rfl) fk_X9_92 rfl <|
    V_istore_n (lv' := [(2, .int (I 33 21)), (0, .ref 33), (1, .int a1)]) (tat ok_X9_end_0 (i := 12) (q := 21) rfl rfl) rfl (Nat.le_of_ble_eq_true rfl) rfl <|
    V_aload_n (tat ok_X9_end_0 (i := 13) (q := 22) rfl rfl) 1 rfl rfl <|
    V_iload_n (tat ok_X9_end_0 (i := 14) (q := 23) rfl rfl) 2 rfl rfl <|
    V_putI (tat ok_X9_end_0 (i := 15) (q := 26) rfl rfl) fk_X9_92 rfl rfl <|
    V_iload_n (tat ok_X9_end_0 (i := 16) (q := 27) rfl rfl) 0 rfl rfl <|
    V_iret (tat ok_X9_end_0 (i := 17) (q := 28) rfl rfl) _ rfl (nar_int _) (hr ((I 33 21), (u2 I 33 21 a1)) (jx (P := P) kk (if_neg c1))) ⟨(Nat.le_of_ble_eq_true rfl), (Nat.le_of_ble_eq_true rfl)⟩) (fun c1 => V_iconst (tat ok_X9_end_0 (i := 8) (q := 15) rfl rfl) ic_m1 <|
    V_iret (tat ok_X9_end_0 (i := 9) (q := 16) rfl rfl) _ rfl (nar_int _) (hr ((-1), I) (jx (P := P) kk (if_pos c1))) ⟨(Nat.le_of_ble_eq_true rfl), (Nat.le_of_ble_eq_true rfl)⟩)
theorem ct_X9_end  (I : WI) (L : WL) (a1 : Int32)  : Ct x_X9_end 2 [.ref 33, .int a1] ly0 I L R0 0 0 (some (.int (p1 (F_X9_end I a1))), ly0, (p2 (F_X9_end I a1)), L, R0) :=
  Ct_of_V mo_X9_end.1 (Nat.le_of_ble_eq_true rfl) (V_X9_end (P := fun x => x = (F_X9_end I a1))  (fun _ e => by rw [e]) rfl)
def F_X9_needs_24 (I : WI) (a1 : Int32) (a2 : Int32) : WI :=
  I
theorem V_X9_needs_24  {I : WI} {L : WL} {a1 : Int32} {a2 : Int32}  {P : WI → Prop} {t : Tg} (hr : ∀ v, P v → t = (none, ly0, v, L, R0)) (kk : P (F_X9_needs_24 I a1 a2)) : V (zM x_X9_needs 1 0 0 t) 24 [(0, .ref 33), (1, .int a1), (2, .int a2)] [] ly0 I L R0 0 0 :=
  V_vret (tat ok_X9_needs_0 (i := 12) (q := 25) rfl rfl) rfl (hr I (jx (P := P) kk rfl)) ⟨(Nat.le_of_ble_eq_true rfl), (Nat.le_of_ble_eq_true rfl)⟩
def F_X9_needs (I : WI) (a1 : Int32) (a2 : Int32) : WI :=
  (if a1 = 0 then (if (I 33 26) = 0 then (F_X9_needs_24 (u2 (u2 I 33 26 a2) 33 27 ((u2 I 33 26 a2) 33 23)) a1 a2) else (F_X9_needs_24 I a1 a2)) else (F_X9_needs_24 I a1 a2))
theorem V_X9_needs  {I : WI} {L : WL} {a1 : Int32} {a2 : Int32}  {P : WI → Prop} {t : Tg} (hr : ∀ v, P v → t = (none, ly0, v, L, R0)) (kk : P (F_X9_needs I a1 a2)) : V (zM x_X9_needs 1 0 0 t) 0 [(0, .ref 33), (1, .int a1), (2, .int a2)] [] ly0 I L R0 0 0 :=
  V_iload_n (tat ok_X9_needs_0 (i := 0) (q := 1) rfl rfl) 1 rfl rfl <|
    V_if_ne (tat ok_X9_needs_0 (i := 1) (q := 4) rfl rfl) rfl (fun c1 => V_X9_needs_24  hr (jx (P := P) kk (if_neg c1))) (fun c1 => V_aload_n (tat ok_X9_needs_0 (i := 2) (q := 5) rfl rfl) 0 rfl rfl <|
    V_getI (tat ok_X9_needs_0 (i := 3) (q := 8) rfl rfl) fk_X9_101 rfl <|
    V_if_ne (tat ok_X9_needs_0 (i := 4) (q := 11) rfl rfl) rfl (fun c2 => V_X9_needs_24  hr (jx (P := P) kk (Eq.trans (if_pos c1) (if_neg c2)))) (fun c2 => V_aload_n (tat ok_X9_needs_0 (i := 5) (q := 12) rfl rfl) 0 rfl rfl <|
    V_iload_n (tat ok_X9_needs_0 (i := 6) (q := 13) rfl rfl) 2 rfl rfl <|
    V_putI (tat ok_X9_needs_0 (i := 7) (q := 16) rfl rfl) fk_X9_101 rfl rfl <|
    V_aload_n (tat ok_X9_needs_0 (i := 8) (q := 17) rfl rfl) 0 rfl rfl <|
    V_aload_n (tat ok_X9_needs_0 (i := 9) (q := 18) rfl rfl) 0 rfl rfl <|
    V_getI (tat ok_X9_needs_0 (i := 10) (q := 21) rfl rfl) fk_X9_104 rfl <|
    V_putI (tat ok_X9_needs_0 (i := 11) (q := 24) rfl rfl) fk_X9_107 rfl rfl <|
    V_X9_needs_24  hr (jx (P := P) kk (Eq.trans (if_pos c1) (if_pos c2)))))
theorem ct_X9_needs  (I : WI) (L : WL) (a1 : Int32) (a2 : Int32)  : Ct x_X9_needs 1 [.ref 33, .int a1, .int a2] ly0 I L R0 0 0 (none, ly0, (F_X9_needs I a1 a2), L, R0) :=
  Ct_of_V mo_X9_needs.1 (Nat.le_of_ble_eq_true rfl) (V_X9_needs (P := fun x => x = (F_X9_needs I a1 a2))  (fun _ e => by rw [e]) rfl)
def F_X9_look_18 (I : WI) (a1 : Int32) (s0 : Int32) : Option Int32 :=
  some s0
theorem V_X9_look_18  {I : WI} {L : WL} {a1 : Int32} {s0 : Int32} {P : Int32 → Prop} {t : Tg} (hr : ∀ v, P v → t = (some (.int v), ly0, I, L, R0)) : oP P (F_X9_look_18 I a1 s0) → V (zM x_X9_look 1 0 0 t) 18 [(0, .ref 33), (1, .int a1)] [.int s0] ly0 I L R0 0 0 :=
  fun _ =>
  have kq : (oP P (F_X9_look_18 I a1 s0)) ∧ True := ⟨by assumption, trivial⟩
  V_iret (tat ok_X9_look_0 (i := 10) (q := 19) rfl rfl) _ rfl (nar_int _) (hr s0 (jq (P := oP P) kq rfl)) ⟨(Nat.le_of_ble_eq_true rfl), (Nat.le_of_ble_eq_true rfl)⟩
def F_X9_look (I : WI) (a1 : Int32) : Option Int32 :=
  (if (I 33 21) ≤ a1 then (F_X9_look_18 I a1 (-1)) else (if a1 < 0 ∨ 320 ≤ Int32.toNatClampNeg a1 then none else (F_X9_look_18 I a1 (I 39 (Int32.toNatClampNeg a1)))))
theorem V_X9_look  {I : WI} {L : WL} {a1 : Int32}  {P : Int32 → Prop} {t : Tg} (hr : ∀ v, P v → t = (some (.int v), ly0, I, L, R0)) : oP P (F_X9_look I a1) → V (zM x_X9_look 1 0 0 t) 0 [(0, .ref 33), (1, .int a1)] [] ly0 I L R0 0 0 :=
  fun _ =>
  have kq : (oP P (F_X9_look I a1)) ∧ True := ⟨by assumption, trivial⟩
  V_iload_n (tat ok_X9_look_0 (i := 0) (q := 1) rfl rfl) 1 rfl rfl <|
    V_aload_n (tat ok_X9_look_0 (i := 1) (q := 2) rfl rfl) 0 rfl rfl <|
    V_getI (tat ok_X9_look_0 (i := 2) (q := 5) rfl rfl) fk_X9_92 rfl <|
    V_icmp_ge (tat ok_X9_look_0 (i := 3) (q := 8) rfl rfl) rfl (fun c1 => V_iconst (tat ok_X9_look_0 (i := 9) (q := 18) rfl rfl) ic_m1 <|
    V_X9_look_18  hr (jq (P := oP P) kq (if_pos c1))) (fun c1 => V_aload_n (tat ok_X9_look_0 (i := 4) (q := 9) rfl rfl) 0 rfl rfl <|
    V_getR (tat ok_X9_look_0 (i := 5) (q := 12) rfl rfl) fk_X9_26 rfl rfl <|
    V_iload_n (tat ok_X9_look_0 (i := 6) (q := 13) rfl rfl) 1 rfl rfl <|
    (if c2 : a1 < 0 ∨ 320 ≤ Int32.toNatClampNeg a1 then ((jq (P := oP P) kq (Eq.trans (if_neg c1) (if_pos c2)))).elim else V_iald (tat ok_X9_look_0 (i := 7) (q := 14) rfl rfl) rfl c2 <|
    V_goto (tat ok_X9_look_0 (i := 8) (q := 17) rfl rfl) rfl <|
    V_X9_look_18  hr (jq (P := oP P) kq (Eq.trans (if_neg c1) (if_neg c2)))))
theorem ct_X9_look  (I : WI) (L : WL) (a1 : Int32)  {v : Int32} (h : (F_X9_look I a1) = some v) : Ct x_X9_look 1 [.ref 33, .int a1] ly0 I L R0 0 0 (some (.int v), ly0, I, L, R0) :=
  Ct_of_V mo_X9_look.1 (Nat.le_of_ble_eq_true rfl) (V_X9_look (P := fun x => x = v)  (fun _ e => by rw [e]) (by rw [h]; exact rfl))
def F_X9_is_59 (I : WI) (a1 : Int32) (a2 : Int32) (a3 : Int32) (a4 : Int32) (s0 : Int32) : Option Int32 :=
  some s0
theorem V_X9_is_59  {I : WI} {L : WL} {a1 : Int32} {a2 : Int32} {a3 : Int32} {a4 : Int32} {s0 : Int32} {P : Int32 → Prop} {t : Tg} (hs0 : bz s0 = s0) (hr : ∀ v, P v → t = (some (.int v), ly0, I, L, R0)) : oP P (F_X9_is_59 I a1 a2 a3 a4 s0) → V (zM x_X9_is 2 0 0 t) 59 [(0, .ref 33), (1, .int a1), (2, .int a2), (3, .int a3), (4, .int a4)] [.int s0] ly0 I L R0 0 0 :=
  fun _ =>
  have kq : (oP P (F_X9_is_59 I a1 a2 a3 a4 s0)) ∧ True := ⟨by assumption, trivial⟩
  V_iret (tat ok_X9_is_0 (i := 32) (q := 60) rfl rfl) _ rfl (bz_nf hs0).1 (hr s0 (jq (P := oP P) kq rfl)) ⟨(Nat.le_of_ble_eq_true rfl), (Nat.le_of_ble_eq_true rfl)⟩
def F_X9_is_58 (I : WI) (a1 : Int32) (a2 : Int32) (a3 : Int32) (a4 : Int32) : Option Int32 :=
  (F_X9_is_59 I a1 a2 a3 a4 0)
theorem V_X9_is_58  {I : WI} {L : WL} {a1 : Int32} {a2 : Int32} {a3 : Int32} {a4 : Int32}  {P : Int32 → Prop} {t : Tg} (hr : ∀ v, P v → t = (some (.int v), ly0, I, L, R0)) : oP P (F_X9_is_58 I a1 a2 a3 a4) → V (zM x_X9_is 2 0 0 t) 58 [(0, .ref 33), (1, .int a1), (2, .int a2), (3, .int a3), (4, .int a4)] [] ly0 I L R0 0 0 :=
  fun _ =>
  have kq : (oP P (F_X9_is_58 I a1 a2 a3 a4)) ∧ True := ⟨by assumption, trivial⟩
  V_iconst (tat ok_X9_is_0 (i := 31) (q := 59) rfl rfl) ic_0 <|
    V_X9_is_59 rfl hr (jq (P := oP P) kq rfl)
def F_X9_is (I : WI) (a1 : Int32) (a2 : Int32) (a3 : Int32) (a4 : Int32) : Option Int32 :=
  (if ((I 33 22) - (I 33 23)) = a1 then (Option.bind (F_X9_look I (I 33 23)) (fun v2 => (if v2 = a2 then (Option.bind (F_X9_look I ((I 33 23) + 1)) (fun v4 => (if v4 = a3 then (Option.bind (F_X9_look I ((I 33 23) + 2)) (fun v6 => (if v6 = a4 then (F_X9_is_59 I a1 a2 a3 a4 1) else (F_X9_is_58 I a1 a2 a3 a4)))) else (F_X9_is_58 I a1 a2 a3 a4)))) else (F_X9_is_58 I a1 a2 a3 a4)))) else (F_X9_is_58 I a1 a2 a3 a4))
theorem V_X9_is  {I : WI} {L : WL} {a1 : Int32} {a2 : Int32} {a3 : Int32} {a4 : Int32}  {P : Int32 → Prop} {t : Tg} (hr : ∀ v, P v → t = (some (.int v), ly0, I, L, R0)) : oP P (F_X9_is I a1 a2 a3 a4) → V (zM x_X9_is 2 0 0 t) 0 [(0, .ref 33), (1, .int a1), (2, .int a2), (3, .int a3), (4, .int a4)] [] ly0 I L R0 0 0 :=
  fun _ =>
  have kq : (oP P (F_X9_is I a1 a2 a3 a4)) ∧ True := ⟨by assumption, trivial⟩
  V_aload_n (tat ok_X9_is_0 (i := 0) (q := 1) rfl rfl) 0 rfl rfl <|
    V_getI (tat ok_X9_is_0 (i := 1) (q := 4) rfl rfl) fk_X9_110 rfl <|
    V_aload_n (tat ok_X9_is_0 (i := 2) (q := 5) rfl rfl) 0 rfl rfl <|
    V_getI (tat ok_X9_is_0 (i := 3) (q := 8) rfl rfl) fk_X9_104 rfl <|
    V_isub (tat ok_X9_is_0 (i := 4) (q := 9) rfl rfl) <|
    V_iload_n (tat ok_X9_is_0 (i := 5) (q := 10) rfl rfl) 1 rfl rfl <|
    V_icmp_ne (tat ok_X9_is_0 (i := 6) (q := 13) rfl rfl) rfl (fun c1 => V_X9_is_58  hr (jq (P := oP P) kq (if_neg c1))) (fun c1 => V_aload_n (tat ok_X9_is_0 (i := 7) (q := 14) rfl rfl) 0 rfl rfl <|
    V_aload_n (tat ok_X9_is_0 (i := 8) (q := 15) rfl rfl) 0 rfl rfl <|
    V_getI (tat ok_X9_is_0 (i := 9) (q := 18) rfl rfl) fk_X9_104 rfl <|
    oP_case (jq (P := oP P) kq (if_pos c1)) (fun v2 e2 _ => V_cv1 (ct_X9_look I L (I 33 23)  e2) mo_X9_look (tat ok_X9_is_0 (i := 10) (q := 21) rfl rfl) ml_X9_113 rfl ⟨by decide, _, rfl, rfl⟩ ⟨(Nat.le_of_ble_eq_true rfl), (Nat.le_of_ble_eq_true rfl)⟩ ⟨(Nat.le_of_ble_eq_true rfl), (Nat.le_of_ble_eq_true rfl)⟩ (Nat.le_of_ble_eq_true rfl) <|
    V_iload_n (tat ok_X9_is_0 (i := 11) (q := 22) rfl rfl) 2 rfl rfl <|
    V_icmp_ne (tat ok_X9_is_0 (i := 12) (q := 25) rfl rfl) rfl (fun c3 => V_X9_is_58  hr (jq (P := oP P) kq (Eq.trans (if_pos c1) (Eq.trans (ob e2) (if_neg c3))))) (fun c3 => V_aload_n (tat ok_X9_is_0 (i := 13) (q := 26) rfl rfl) 0 rfl rfl <|
    V_aload_n (tat ok_X9_is_0 (i := 14) (q := 27) rfl rfl) 0 rfl rfl <|
    V_getI (tat ok_X9_is_0 (i := 15) (q := 30) rfl rfl) fk_X9_104 rfl <|
    V_iconst (tat ok_X9_is_0 (i := 16) (q := 31) rfl rfl) ic_1 <|
    V_iadd (tat ok_X9_is_0 (i := 17) (q := 32) rfl rfl) <|
    oP_case (jq (P := oP P) kq (Eq.trans (if_pos c1) (Eq.trans (ob e2) (if_pos c3)))) (fun v4 e4 _ => V_cv1 (ct_X9_look I L ((I 33 23) + 1)  e4) mo_X9_look (tat ok_X9_is_0 (i := 18) (q := 35) rfl rfl) ml_X9_113 rfl ⟨by decide, _, rfl, rfl⟩ ⟨(Nat.le_of_ble_eq_true rfl), (Nat.le_of_ble_eq_true rfl)⟩ ⟨(Nat.le_of_ble_eq_true rfl), (Nat.le_of_ble_eq_true rfl)⟩ (Nat.le_of_ble_eq_true rfl) <|
    V_iload_n (tat ok_X9_is_0 (i := 19) (q := 36) rfl rfl) 3 rfl rfl <|
    V_icmp_ne (tat ok_X9_is_0 (i := 20) (q := 39) rfl rfl) rfl (fun c5 => V_X9_is_58  hr (jq (P := oP P) kq (Eq.trans (if_pos c1) (Eq.trans (ob e2) (Eq.trans (if_pos c3) (Eq.trans (ob e4) (if_neg c5))))))) (fun c5 => V_aload_n (tat ok_X9_is_0 (i := 21) (q := 40) rfl rfl) 0 rfl rfl <|
    V_aload_n (tat ok_X9_is_0 (i := 22) (q := 41) rfl rfl) 0 rfl rfl <|
    V_getI (tat ok_X9_is_0 (i := 23) (q := 44) rfl rfl) fk_X9_104 rfl <|
    V_iconst (tat ok_X9_is_0 (i := 24) (q := 45) rfl rfl) ic_2 <|
    V_iadd (tat ok_X9_is_0 (i := 25) (q := 46) rfl rfl) <|
    oP_case (jq (P := oP P) kq (Eq.trans (if_pos c1) (Eq.trans (ob e2) (Eq.trans (if_pos c3) (Eq.trans (ob e4) (if_pos c5)))))) (fun v6 e6 _ => V_cv1 (ct_X9_look I L ((I 33 23) + 2)  e6) mo_X9_look (tat ok_X9_is_0 (i := 26) (q := 49) rfl rfl) ml_X9_113 rfl ⟨by decide, _, rfl, rfl⟩ ⟨(Nat.le_of_ble_eq_true rfl), (Nat.le_of_ble_eq_true rfl)⟩ ⟨(Nat.le_of_ble_eq_true rfl), (Nat.le_of_ble_eq_true rfl)⟩ (Nat.le_of_ble_eq_true rfl) <|
    V_iload (tat ok_X9_is_0 (i := 27) (q := 51) rfl rfl) 4 rfl <|
    V_icmp_ne (tat ok_X9_is_0 (i := 28) (q := 54) rfl rfl) rfl (fun c7 => V_X9_is_58  hr (jq (P := oP P) kq (Eq.trans (if_pos c1) (Eq.trans (ob e2) (Eq.trans (if_pos c3) (Eq.trans (ob e4) (Eq.trans (if_pos c5) (Eq.trans (ob e6) (if_neg c7))))))))) (fun c7 => V_iconst (tat ok_X9_is_0 (i := 29) (q := 55) rfl rfl) ic_1 <|
    V_goto (tat ok_X9_is_0 (i := 30) (q := 58) rfl rfl) rfl <|
    V_X9_is_59 rfl hr (jq (P := oP P) kq (Eq.trans (if_pos c1) (Eq.trans (ob e2) (Eq.trans (if_pos c3) (Eq.trans (ob e4) (Eq.trans (if_pos c5) (Eq.trans (ob e6) (if_pos c7)))))))))))))))
theorem ct_X9_is  (I : WI) (L : WL) (a1 : Int32) (a2 : Int32) (a3 : Int32) (a4 : Int32)  {v : Int32} (h : (F_X9_is I a1 a2 a3 a4) = some v) : Ct x_X9_is 2 [.ref 33, .int a1, .int a2, .int a3, .int a4] ly0 I L R0 0 0 (some (.int v), ly0, I, L, R0) :=
  Ct_of_V mo_X9_is.1 (Nat.le_of_ble_eq_true rfl) (V_X9_is (P := fun x => x = v)  (fun _ e => by rw [e]) (by rw [h]; exact rfl))
def F_X9_goesOn_61 (I : WI) (a1 : Int32) (a2 : Int32) (a3 : Int32) (a4 : Int32) (s0 : Int32) : Option Int32 :=
  some s0
theorem V_X9_goesOn_61  {I : WI} {L : WL} {a1 : Int32} {a2 : Int32} {a3 : Int32} {a4 : Int32} {s0 : Int32} {P : Int32 → Prop} {t : Tg} (hs0 : bz s0 = s0) (hr : ∀ v, P v → t = (some (.int v), ly0, I, L, R0)) : oP P (F_X9_goesOn_61 I a1 a2 a3 a4 s0) → V (zM x_X9_goesOn 2 0 0 t) 61 [(0, .ref 33), (1, .int a1), (2, .int a2), (3, .int a3), (4, .int a4)] [.int s0] ly0 I L R0 0 0 :=
  fun _ =>
  have kq : (oP P (F_X9_goesOn_61 I a1 a2 a3 a4 s0)) ∧ True := ⟨by assumption, trivial⟩
  V_iret (tat ok_X9_goesOn_0 (i := 35) (q := 62) rfl rfl) _ rfl (bz_nf hs0).1 (hr s0 (jq (P := oP P) kq rfl)) ⟨(Nat.le_of_ble_eq_true rfl), (Nat.le_of_ble_eq_true rfl)⟩
def F_X9_goesOn_56 (I : WI) (a1 : Int32) (a2 : Int32) (a3 : Int32) (a4 : Int32) : Option Int32 :=
  (F_X9_goesOn_61 I a1 a2 a3 a4 1)
theorem V_X9_goesOn_56  {I : WI} {L : WL} {a1 : Int32} {a2 : Int32} {a3 : Int32} {a4 : Int32}  {P : Int32 → Prop} {t : Tg} (hr : ∀ v, P v → t = (some (.int v), ly0, I, L, R0)) : oP P (F_X9_goesOn_56 I a1 a2 a3 a4) → V (zM x_X9_goesOn 2 0 0 t) 56 [(0, .ref 33), (1, .int a1), (2, .int a2), (3, .int a3), (4, .int a4)] [] ly0 I L R0 0 0 :=
  fun _ =>
  have kq : (oP P (F_X9_goesOn_56 I a1 a2 a3 a4)) ∧ True := ⟨by assumption, trivial⟩
  V_iconst (tat ok_X9_goesOn_0 (i := 32) (q := 57) rfl rfl) ic_1 <|
    V_goto (tat ok_X9_goesOn_0 (i := 33) (q := 60) rfl rfl) rfl <|
    V_X9_goesOn_61 rfl hr (jq (P := oP P) kq rfl)
def F_X9_goesOn_60 (I : WI) (a1 : Int32) (a2 : Int32) (a3 : Int32) (a4 : Int32) : Option Int32 :=
  (F_X9_goesOn_61 I a1 a2 a3 a4 0)
theorem V_X9_goesOn_60  {I : WI} {L : WL} {a1 : Int32} {a2 : Int32} {a3 : Int32} {a4 : Int32}  {P : Int32 → Prop} {t : Tg} (hr : ∀ v, P v → t = (some (.int v), ly0, I, L, R0)) : oP P (F_X9_goesOn_60 I a1 a2 a3 a4) → V (zM x_X9_goesOn 2 0 0 t) 60 [(0, .ref 33), (1, .int a1), (2, .int a2), (3, .int a3), (4, .int a4)] [] ly0 I L R0 0 0 :=
  fun _ =>
  have kq : (oP P (F_X9_goesOn_60 I a1 a2 a3 a4)) ∧ True := ⟨by assumption, trivial⟩
  V_iconst (tat ok_X9_goesOn_0 (i := 34) (q := 61) rfl rfl) ic_0 <|
    V_X9_goesOn_61 rfl hr (jq (P := oP P) kq rfl)
def F_X9_goesOn_34 (I : WI) (a1 : Int32) (a2 : Int32) (a3 : Int32) (a4 : Int32) : Option Int32 :=
  (if a4 = 0 then (F_X9_goesOn_56 I a1 a2 a3 a4) else (Option.bind (F_X9_look I (((I 33 23) + a1) + 2)) (fun v5 => (if v5 = a4 then (F_X9_goesOn_56 I a1 a2 a3 a4) else (F_X9_goesOn_60 I a1 a2 a3 a4)))))
theorem V_X9_goesOn_34  {I : WI} {L : WL} {a1 : Int32} {a2 : Int32} {a3 : Int32} {a4 : Int32}  {P : Int32 → Prop} {t : Tg} (hr : ∀ v, P v → t = (some (.int v), ly0, I, L, R0)) : oP P (F_X9_goesOn_34 I a1 a2 a3 a4) → V (zM x_X9_goesOn 2 0 0 t) 34 [(0, .ref 33), (1, .int a1), (2, .int a2), (3, .int a3), (4, .int a4)] [] ly0 I L R0 0 0 :=
  fun _ =>
  have kq : (oP P (F_X9_goesOn_34 I a1 a2 a3 a4)) ∧ True := ⟨by assumption, trivial⟩
  V_iload (tat ok_X9_goesOn_0 (i := 20) (q := 36) rfl rfl) 4 rfl <|
    V_if_eq (tat ok_X9_goesOn_0 (i := 21) (q := 39) rfl rfl) rfl (fun c4 => V_X9_goesOn_56  hr (jq (P := oP P) kq (if_pos c4))) (fun c4 => V_aload_n (tat ok_X9_goesOn_0 (i := 22) (q := 40) rfl rfl) 0 rfl rfl <|
    V_aload_n (tat ok_X9_goesOn_0 (i := 23) (q := 41) rfl rfl) 0 rfl rfl <|
    V_getI (tat ok_X9_goesOn_0 (i := 24) (q := 44) rfl rfl) fk_X9_104 rfl <|
    V_iload_n (tat ok_X9_goesOn_0 (i := 25) (q := 45) rfl rfl) 1 rfl rfl <|
    V_iadd (tat ok_X9_goesOn_0 (i := 26) (q := 46) rfl rfl) <|
    V_iconst (tat ok_X9_goesOn_0 (i := 27) (q := 47) rfl rfl) ic_2 <|
    V_iadd (tat ok_X9_goesOn_0 (i := 28) (q := 48) rfl rfl) <|
    oP_case (jq (P := oP P) kq (if_neg c4)) (fun v5 e5 _ => V_cv1 (ct_X9_look I L (((I 33 23) + a1) + 2)  e5) mo_X9_look (tat ok_X9_goesOn_0 (i := 29) (q := 51) rfl rfl) ml_X9_113 rfl ⟨by decide, _, rfl, rfl⟩ ⟨(Nat.le_of_ble_eq_true rfl), (Nat.le_of_ble_eq_true rfl)⟩ ⟨(Nat.le_of_ble_eq_true rfl), (Nat.le_of_ble_eq_true rfl)⟩ (Nat.le_of_ble_eq_true rfl) <|
    V_iload (tat ok_X9_goesOn_0 (i := 30) (q := 53) rfl rfl) 4 rfl <|
    V_icmp_ne (tat ok_X9_goesOn_0 (i := 31) (q := 56) rfl rfl) rfl (fun c6 => V_X9_goesOn_60  hr (jq (P := oP P) kq (Eq.trans (if_neg c4) (Eq.trans (ob e5) (if_neg c6))))) (fun c6 => V_X9_goesOn_56  hr (jq (P := oP P) kq (Eq.trans (if_neg c4) (Eq.trans (ob e5) (if_pos c6)))))))
def F_X9_goesOn (I : WI) (a1 : Int32) (a2 : Int32) (a3 : Int32) (a4 : Int32) : Option Int32 :=
  (Option.bind (F_X9_look I ((I 33 23) + a1)) (fun v1 => (if v1 = a2 then (if a3 = 0 then (F_X9_goesOn_34 I a1 a2 a3 a4) else (Option.bind (F_X9_look I (((I 33 23) + a1) + 1)) (fun v7 => (if v7 = a3 then (F_X9_goesOn_34 I a1 a2 a3 a4) else (F_X9_goesOn_60 I a1 a2 a3 a4))))) else (F_X9_goesOn_60 I a1 a2 a3 a4))))
theorem V_X9_goesOn  {I : WI} {L : WL} {a1 : Int32} {a2 : Int32} {a3 : Int32} {a4 : Int32}  {P : Int32 → Prop} {t : Tg} (hr : ∀ v, P v → t = (some (.int v), ly0, I, L, R0)) : oP P (F_X9_goesOn I a1 a2 a3 a4) → V (zM x_X9_goesOn 2 0 0 t) 0 [(0, .ref 33), (1, .int a1), (2, .int a2), (3, .int a3), (4, .int a4)] [] ly0 I L R0 0 0 :=
  fun _ =>
  have kq : (oP P (F_X9_goesOn I a1 a2 a3 a4)) ∧ True := ⟨by assumption, trivial⟩
  V_aload_n (tat ok_X9_goesOn_0 (i := 0) (q := 1) rfl rfl) 0 rfl rfl <|
    V_aload_n (tat ok_X9_goesOn_0 (i := 1) (q := 2) rfl rfl) 0 rfl rfl <|
    V_getI (tat ok_X9_goesOn_0 (i := 2) (q := 5) rfl rfl) fk_X9_104 rfl <|
    V_iload_n (tat ok_X9_goesOn_0 (i := 3) (q := 6) rfl rfl) 1 rfl rfl <|
    V_iadd (tat ok_X9_goesOn_0 (i := 4) (q := 7) rfl rfl) <|
    oP_case (jq (P := oP P) kq rfl) (fun v1 e1 _ => V_cv1 (ct_X9_look I L ((I 33 23) + a1)  e1) mo_X9_look (tat ok_X9_goesOn_0 (i := 5) (q := 10) rfl rfl) ml_X9_113 rfl ⟨by decide, _, rfl, rfl⟩ ⟨(Nat.le_of_ble_eq_true rfl), (Nat.le_of_ble_eq_true rfl)⟩ ⟨(Nat.le_of_ble_eq_true rfl), (Nat.le_of_ble_eq_true rfl)⟩ (Nat.le_of_ble_eq_true rfl) <|
    V_iload_n (tat ok_X9_goesOn_0 (i := 6) (q := 11) rfl rfl) 2 rfl rfl <|
    V_icmp_ne (tat ok_X9_goesOn_0 (i := 7) (q := 14) rfl rfl) rfl (fun c2 => V_X9_goesOn_60  hr (jq (P := oP P) kq (Eq.trans (ob e1) (if_neg c2)))) (fun c2 => V_iload_n (tat ok_X9_goesOn_0 (i := 8) (q := 15) rfl rfl) 3 rfl rfl <|
    V_if_eq (tat ok_X9_goesOn_0 (i := 9) (q := 18) rfl rfl) rfl (fun c3 => V_X9_goesOn_34  hr (jq (P := oP P) kq (Eq.trans (ob e1) (Eq.trans (if_pos c2) (if_pos c3))))) (fun c3 => V_aload_n (tat ok_X9_goesOn_0 (i := 10) (q := 19) rfl rfl) 0 rfl rfl <|
    V_aload_n (tat ok_X9_goesOn_0 (i := 11) (q := 20) rfl rfl) 0 rfl rfl <|
    V_getI (tat ok_X9_goesOn_0 (i := 12) (q := 23) rfl rfl) fk_X9_104 rfl <|
    V_iload_n (tat ok_X9_goesOn_0 (i := 13) (q := 24) rfl rfl) 1 rfl rfl <|
    V_iadd (tat ok_X9_goesOn_0 (i := 14) (q := 25) rfl rfl) <|
    V_iconst (tat ok_X9_goesOn_0 (i := 15) (q := 26) rfl rfl) ic_1 <|
    V_iadd (tat ok_X9_goesOn_0 (i := 16) (q := 27) rfl rfl) <|
    oP_case (jq (P := oP P) kq (Eq.trans (ob e1) (Eq.trans (if_pos c2) (if_neg c3)))) (fun v7 e7 _ => V_cv1 (ct_X9_look I L (((I 33 23) + a1) + 1)  e7) mo_X9_look (tat ok_X9_goesOn_0 (i := 17) (q := 30) rfl rfl) ml_X9_113 rfl ⟨by decide, _, rfl, rfl⟩ ⟨(Nat.le_of_ble_eq_true rfl), (Nat.le_of_ble_eq_true rfl)⟩ ⟨(Nat.le_of_ble_eq_true rfl), (Nat.le_of_ble_eq_true rfl)⟩ (Nat.le_of_ble_eq_true rfl) <|
    V_iload_n (tat ok_X9_goesOn_0 (i := 18) (q := 31) rfl rfl) 3 rfl rfl <|
    V_icmp_ne (tat ok_X9_goesOn_0 (i := 19) (q := 34) rfl rfl) rfl (fun c8 => V_X9_goesOn_60  hr (jq (P := oP P) kq (Eq.trans (ob e1) (Eq.trans (if_pos c2) (Eq.trans (if_neg c3) (Eq.trans (ob e7) (if_neg c8))))))) (fun c8 => V_X9_goesOn_34  hr (jq (P := oP P) kq (Eq.trans (ob e1) (Eq.trans (if_pos c2) (Eq.trans (if_neg c3) (Eq.trans (ob e7) (if_pos c8)))))))))))
theorem ct_X9_goesOn  (I : WI) (L : WL) (a1 : Int32) (a2 : Int32) (a3 : Int32) (a4 : Int32)  {v : Int32} (h : (F_X9_goesOn I a1 a2 a3 a4) = some v) : Ct x_X9_goesOn 2 [.ref 33, .int a1, .int a2, .int a3, .int a4] ly0 I L R0 0 0 (some (.int v), ly0, I, L, R0) :=
  Ct_of_V mo_X9_goesOn.1 (Nat.le_of_ble_eq_true rfl) (V_X9_goesOn (P := fun x => x = v)  (fun _ e => by rw [e]) (by rw [h]; exact rfl))
def F_X9_lineNow_96 (I : WI)  (s0 : Int32) : Option Int32 :=
  some s0
theorem V_X9_lineNow_96  {I : WI} {L : WL}  {s0 : Int32} {P : Int32 → Prop} {t : Tg} (hr : ∀ v, P v → t = (some (.int v), ly0, I, L, R0)) : oP P (F_X9_lineNow_96 I s0) → V (zM x_X9_lineNow 3 0 0 t) 96 [(0, .ref 33)] [.int s0] ly0 I L R0 0 0 :=
  fun _ =>
  have kq : (oP P (F_X9_lineNow_96 I s0)) ∧ True := ⟨by assumption, trivial⟩
  V_iret (tat ok_X9_lineNow_1 (i := 9) (q := 97) rfl rfl) _ rfl (nar_int _) (hr s0 (jq (P := oP P) kq rfl)) ⟨(Nat.le_of_ble_eq_true rfl), (Nat.le_of_ble_eq_true rfl)⟩
def F_X9_lineNow_75 (I : WI) : Option Int32 :=
  (Option.bind (F_X9_is I 3 100 97 121) (fun v5 => (if v5 = 0 then (F_X9_lineNow_96 I (-4)) else (F_X9_lineNow_96 I 12))))
theorem V_X9_lineNow_75  {I : WI} {L : WL}   {P : Int32 → Prop} {t : Tg} (hr : ∀ v, P v → t = (some (.int v), ly0, I, L, R0)) : oP P (F_X9_lineNow_75 I) → V (zM x_X9_lineNow 3 0 0 t) 75 [(0, .ref 33)] [] ly0 I L R0 0 0 :=
  fun _ =>
  have kq : (oP P (F_X9_lineNow_75 I)) ∧ True := ⟨by assumption, trivial⟩
  V_aload_n (tat ok_X9_lineNow_0 (i := 39) (q := 76) rfl rfl) 0 rfl rfl <|
    V_iconst (tat ok_X9_lineNow_1 (i := 0) (q := 77) rfl rfl) ic_3 <|
    V_bipush (tat ok_X9_lineNow_1 (i := 1) (q := 79) rfl rfl) bp_100 <|
    V_bipush (tat ok_X9_lineNow_1 (i := 2) (q := 81) rfl rfl) bp_97 <|
    V_bipush (tat ok_X9_lineNow_1 (i := 3) (q := 83) rfl rfl) bp_121 <|
    oP_case (jq (P := oP P) kq rfl) (fun v5 e5 _ => V_cv4 (ct_X9_is I L 3 100 97 121  e5) mo_X9_is (tat ok_X9_lineNow_1 (i := 4) (q := 86) rfl rfl) ml_X9_117 rfl ⟨by decide, _, rfl, rfl⟩ ⟨(Nat.le_of_ble_eq_true rfl), (Nat.le_of_ble_eq_true rfl)⟩ ⟨(Nat.le_of_ble_eq_true rfl), (Nat.le_of_ble_eq_true rfl)⟩ (Nat.le_of_ble_eq_true rfl) <|
    V_if_eq (tat ok_X9_lineNow_1 (i := 5) (q := 89) rfl rfl) rfl (fun c6 => V_bipush (tat ok_X9_lineNow_1 (i := 8) (q := 96) rfl rfl) bp_m4 <|
    V_X9_lineNow_96  hr (jq (P := oP P) kq (Eq.trans (ob e5) (if_pos c6)))) (fun c6 => V_bipush (tat ok_X9_lineNow_1 (i := 6) (q := 91) rfl rfl) bp_12 <|
    V_goto (tat ok_X9_lineNow_1 (i := 7) (q := 94) rfl rfl) rfl <|
    V_X9_lineNow_96  hr (jq (P := oP P) kq (Eq.trans (ob e5) (if_neg c6)))))
def F_X9_lineNow_30 (I : WI) : Option Int32 :=
  (Option.bind (F_X9_is I 7 112 97 116) (fun v3 => (if v3 = 0 then (F_X9_lineNow_75 I) else (Option.bind (F_X9_goesOn I 3 116 101 114) (fun v7 => (if v7 = 0 then (F_X9_lineNow_75 I) else (Option.bind (F_X9_goesOn I 6 110 0 0) (fun v9 => (if v9 = 0 then (F_X9_lineNow_75 I) else some 11)))))))))
theorem V_X9_lineNow_30  {I : WI} {L : WL}   {P : Int32 → Prop} {t : Tg} (hr : ∀ v, P v → t = (some (.int v), ly0, I, L, R0)) : oP P (F_X9_lineNow_30 I) → V (zM x_X9_lineNow 3 0 0 t) 30 [(0, .ref 33)] [] ly0 I L R0 0 0 :=
  fun _ =>
  have kq : (oP P (F_X9_lineNow_30 I)) ∧ True := ⟨by assumption, trivial⟩
  V_aload_n (tat ok_X9_lineNow_0 (i := 16) (q := 31) rfl rfl) 0 rfl rfl <|
    V_bipush (tat ok_X9_lineNow_0 (i := 17) (q := 33) rfl rfl) bp_7 <|
    V_bipush (tat ok_X9_lineNow_0 (i := 18) (q := 35) rfl rfl) bp_112 <|
    V_bipush (tat ok_X9_lineNow_0 (i := 19) (q := 37) rfl rfl) bp_97 <|
    V_bipush (tat ok_X9_lineNow_0 (i := 20) (q := 39) rfl rfl) bp_116 <|
    oP_case (jq (P := oP P) kq rfl) (fun v3 e3 _ => V_cv4 (ct_X9_is I L 7 112 97 116  e3) mo_X9_is (tat ok_X9_lineNow_0 (i := 21) (q := 42) rfl rfl) ml_X9_117 rfl ⟨by decide, _, rfl, rfl⟩ ⟨(Nat.le_of_ble_eq_true rfl), (Nat.le_of_ble_eq_true rfl)⟩ ⟨(Nat.le_of_ble_eq_true rfl), (Nat.le_of_ble_eq_true rfl)⟩ (Nat.le_of_ble_eq_true rfl) <|
    V_if_eq (tat ok_X9_lineNow_0 (i := 22) (q := 45) rfl rfl) rfl (fun c4 => V_X9_lineNow_75  hr (jq (P := oP P) kq (Eq.trans (ob e3) (if_pos c4)))) (fun c4 => V_aload_n (tat ok_X9_lineNow_0 (i := 23) (q := 46) rfl rfl) 0 rfl rfl <|
    V_iconst (tat ok_X9_lineNow_0 (i := 24) (q := 47) rfl rfl) ic_3 <|
    V_bipush (tat ok_X9_lineNow_0 (i := 25) (q := 49) rfl rfl) bp_116 <|
    V_bipush (tat ok_X9_lineNow_0 (i := 26) (q := 51) rfl rfl) bp_101 <|
    V_bipush (tat ok_X9_lineNow_0 (i := 27) (q := 53) rfl rfl) bp_114 <|
    oP_case (jq (P := oP P) kq (Eq.trans (ob e3) (if_neg c4))) (fun v7 e7 _ => V_cv4 (ct_X9_goesOn I L 3 116 101 114  e7) mo_X9_goesOn (tat ok_X9_lineNow_0 (i := 28) (q := 56) rfl rfl) ml_X9_121 rfl ⟨by decide, _, rfl, rfl⟩ ⟨(Nat.le_of_ble_eq_true rfl), (Nat.le_of_ble_eq_true rfl)⟩ ⟨(Nat.le_of_ble_eq_true rfl), (Nat.le_of_ble_eq_true rfl)⟩ (Nat.le_of_ble_eq_true rfl) <|
    V_if_eq (tat ok_X9_lineNow_0 (i := 29) (q := 59) rfl rfl) rfl (fun c8 => V_X9_lineNow_75  hr (jq (P := oP P) kq (Eq.trans (ob e3) (Eq.trans (if_neg c4) (Eq.trans (ob e7) (if_pos c8)))))) (fun c8 => V_aload_n (tat ok_X9_lineNow_0 (i := 30) (q := 60) rfl rfl) 0 rfl rfl <|
    V_bipush (tat ok_X9_lineNow_0 (i := 31) (q := 62) rfl rfl) bp_6 <|
    V_bipush (tat ok_X9_lineNow_0 (i := 32) (q := 64) rfl rfl) bp_110 <|
    V_iconst (tat ok_X9_lineNow_0 (i := 33) (q := 65) rfl rfl) ic_0 <|
    V_iconst (tat ok_X9_lineNow_0 (i := 34) (q := 66) rfl rfl) ic_0 <|
    oP_case (jq (P := oP P) kq (Eq.trans (ob e3) (Eq.trans (if_neg c4) (Eq.trans (ob e7) (if_neg c8))))) (fun v9 e9 _ => V_cv4 (ct_X9_goesOn I L 6 110 0 0  e9) mo_X9_goesOn (tat ok_X9_lineNow_0 (i := 35) (q := 69) rfl rfl) ml_X9_121 rfl ⟨by decide, _, rfl, rfl⟩ ⟨(Nat.le_of_ble_eq_true rfl), (Nat.le_of_ble_eq_true rfl)⟩ ⟨(Nat.le_of_ble_eq_true rfl), (Nat.le_of_ble_eq_true rfl)⟩ (Nat.le_of_ble_eq_true rfl) <|
    V_if_eq (tat ok_X9_lineNow_0 (i := 36) (q := 72) rfl rfl) rfl (fun c10 => V_X9_lineNow_75  hr (jq (P := oP P) kq (Eq.trans (ob e3) (Eq.trans (if_neg c4) (Eq.trans (ob e7) (Eq.trans (if_neg c8) (Eq.trans (ob e9) (if_pos c10)))))))) (fun c10 => V_bipush (tat ok_X9_lineNow_0 (i := 37) (q := 74) rfl rfl) bp_11 <|
    V_iret (tat ok_X9_lineNow_0 (i := 38) (q := 75) rfl rfl) _ rfl (nar_int _) (hr 11 (jq (P := oP P) kq (Eq.trans (ob e3) (Eq.trans (if_neg c4) (Eq.trans (ob e7) (Eq.trans (if_neg c8) (Eq.trans (ob e9) (if_neg c10)))))))) ⟨(Nat.le_of_ble_eq_true rfl), (Nat.le_of_ble_eq_true rfl)⟩))))))
def F_X9_lineNow (I : WI) : Option Int32 :=
  (Option.bind (F_X9_is I 5 99 108 111) (fun v1 => (if v1 = 0 then (F_X9_lineNow_30 I) else (Option.bind (F_X9_goesOn I 3 116 104 0) (fun v11 => (if v11 = 0 then (F_X9_lineNow_30 I) else some 10))))))
theorem V_X9_lineNow  {I : WI} {L : WL}   {P : Int32 → Prop} {t : Tg} (hr : ∀ v, P v → t = (some (.int v), ly0, I, L, R0)) : oP P (F_X9_lineNow I) → V (zM x_X9_lineNow 3 0 0 t) 0 [(0, .ref 33)] [] ly0 I L R0 0 0 :=
  fun _ =>
  have kq : (oP P (F_X9_lineNow I)) ∧ True := ⟨by assumption, trivial⟩
  V_aload_n (tat ok_X9_lineNow_0 (i := 0) (q := 1) rfl rfl) 0 rfl rfl <|
    V_iconst (tat ok_X9_lineNow_0 (i := 1) (q := 2) rfl rfl) ic_5 <|
    V_bipush (tat ok_X9_lineNow_0 (i := 2) (q := 4) rfl rfl) bp_99 <|
    V_bipush (tat ok_X9_lineNow_0 (i := 3) (q := 6) rfl rfl) bp_108 <|
    V_bipush (tat ok_X9_lineNow_0 (i := 4) (q := 8) rfl rfl) bp_111 <|
    oP_case (jq (P := oP P) kq rfl) (fun v1 e1 _ => V_cv4 (ct_X9_is I L 5 99 108 111  e1) mo_X9_is (tat ok_X9_lineNow_0 (i := 5) (q := 11) rfl rfl) ml_X9_117 rfl ⟨by decide, _, rfl, rfl⟩ ⟨(Nat.le_of_ble_eq_true rfl), (Nat.le_of_ble_eq_true rfl)⟩ ⟨(Nat.le_of_ble_eq_true rfl), (Nat.le_of_ble_eq_true rfl)⟩ (Nat.le_of_ble_eq_true rfl) <|
    V_if_eq (tat ok_X9_lineNow_0 (i := 6) (q := 14) rfl rfl) rfl (fun c2 => V_X9_lineNow_30  hr (jq (P := oP P) kq (Eq.trans (ob e1) (if_pos c2)))) (fun c2 => V_aload_n (tat ok_X9_lineNow_0 (i := 7) (q := 15) rfl rfl) 0 rfl rfl <|
    V_iconst (tat ok_X9_lineNow_0 (i := 8) (q := 16) rfl rfl) ic_3 <|
    V_bipush (tat ok_X9_lineNow_0 (i := 9) (q := 18) rfl rfl) bp_116 <|
    V_bipush (tat ok_X9_lineNow_0 (i := 10) (q := 20) rfl rfl) bp_104 <|
    V_iconst (tat ok_X9_lineNow_0 (i := 11) (q := 21) rfl rfl) ic_0 <|
    oP_case (jq (P := oP P) kq (Eq.trans (ob e1) (if_neg c2))) (fun v11 e11 _ => V_cv4 (ct_X9_goesOn I L 3 116 104 0  e11) mo_X9_goesOn (tat ok_X9_lineNow_0 (i := 12) (q := 24) rfl rfl) ml_X9_121 rfl ⟨by decide, _, rfl, rfl⟩ ⟨(Nat.le_of_ble_eq_true rfl), (Nat.le_of_ble_eq_true rfl)⟩ ⟨(Nat.le_of_ble_eq_true rfl), (Nat.le_of_ble_eq_true rfl)⟩ (Nat.le_of_ble_eq_true rfl) <|
    V_if_eq (tat ok_X9_lineNow_0 (i := 13) (q := 27) rfl rfl) rfl (fun c12 => V_X9_lineNow_30  hr (jq (P := oP P) kq (Eq.trans (ob e1) (Eq.trans (if_neg c2) (Eq.trans (ob e11) (if_pos c12)))))) (fun c12 => V_bipush (tat ok_X9_lineNow_0 (i := 14) (q := 29) rfl rfl) bp_10 <|
    V_iret (tat ok_X9_lineNow_0 (i := 15) (q := 30) rfl rfl) _ rfl (nar_int _) (hr 10 (jq (P := oP P) kq (Eq.trans (ob e1) (Eq.trans (if_neg c2) (Eq.trans (ob e11) (if_neg c12)))))) ⟨(Nat.le_of_ble_eq_true rfl), (Nat.le_of_ble_eq_true rfl)⟩))))
theorem ct_X9_lineNow  (I : WI) (L : WL)  {v : Int32} (h : (F_X9_lineNow I) = some v) : Ct x_X9_lineNow 3 [.ref 33] ly0 I L R0 0 0 (some (.int v), ly0, I, L, R0) :=
  Ct_of_V mo_X9_lineNow.1 (Nat.le_of_ble_eq_true rfl) (V_X9_lineNow (P := fun x => x = v)  (fun _ e => by rw [e]) (by rw [h]; exact rfl))
def F_X9_actNow_80 (I : WI)  (s0 : Int32) : Option Int32 :=
  some s0
theorem V_X9_actNow_80  {I : WI} {L : WL}  {s0 : Int32} {P : Int32 → Prop} {t : Tg} (hr : ∀ v, P v → t = (some (.int v), ly0, I, L, R0)) : oP P (F_X9_actNow_80 I s0) → V (zM x_X9_actNow 3 0 0 t) 80 [(0, .ref 33)] [.int s0] ly0 I L R0 0 0 :=
  fun _ =>
  have kq : (oP P (F_X9_actNow_80 I s0)) ∧ True := ⟨by assumption, trivial⟩
  V_iret (tat ok_X9_actNow_1 (i := 2) (q := 81) rfl rfl) _ rfl (nar_int _) (hr s0 (jq (P := oP P) kq rfl)) ⟨(Nat.le_of_ble_eq_true rfl), (Nat.le_of_ble_eq_true rfl)⟩
def F_X9_actNow_78 (I : WI) : Option Int32 :=
  (F_X9_actNow_80 I (-4))
theorem V_X9_actNow_78  {I : WI} {L : WL}   {P : Int32 → Prop} {t : Tg} (hr : ∀ v, P v → t = (some (.int v), ly0, I, L, R0)) : oP P (F_X9_actNow_78 I) → V (zM x_X9_actNow 3 0 0 t) 78 [(0, .ref 33)] [] ly0 I L R0 0 0 :=
  fun _ =>
  have kq : (oP P (F_X9_actNow_78 I)) ∧ True := ⟨by assumption, trivial⟩
  V_bipush (tat ok_X9_actNow_1 (i := 1) (q := 80) rfl rfl) bp_m4 <|
    V_X9_actNow_80  hr (jq (P := oP P) kq rfl)
def F_X9_actNow_47 (I : WI) : Option Int32 :=
  (Option.bind (F_X9_is I 5 115 108 97) (fun v5 => (if v5 = 0 then (F_X9_actNow_78 I) else (Option.bind (F_X9_goesOn I 3 110 116 0) (fun v7 => (if v7 = 0 then (F_X9_actNow_78 I) else (F_X9_actNow_80 I 2)))))))
theorem V_X9_actNow_47  {I : WI} {L : WL}   {P : Int32 → Prop} {t : Tg} (hr : ∀ v, P v → t = (some (.int v), ly0, I, L, R0)) : oP P (F_X9_actNow_47 I) → V (zM x_X9_actNow 3 0 0 t) 47 [(0, .ref 33)] [] ly0 I L R0 0 0 :=
  fun _ =>
  have kq : (oP P (F_X9_actNow_47 I)) ∧ True := ⟨by assumption, trivial⟩
  V_aload_n (tat ok_X9_actNow_0 (i := 25) (q := 48) rfl rfl) 0 rfl rfl <|
    V_iconst (tat ok_X9_actNow_0 (i := 26) (q := 49) rfl rfl) ic_5 <|
    V_bipush (tat ok_X9_actNow_0 (i := 27) (q := 51) rfl rfl) bp_115 <|
    V_bipush (tat ok_X9_actNow_0 (i := 28) (q := 53) rfl rfl) bp_108 <|
    V_bipush (tat ok_X9_actNow_0 (i := 29) (q := 55) rfl rfl) bp_97 <|
    oP_case (jq (P := oP P) kq rfl) (fun v5 e5 _ => V_cv4 (ct_X9_is I L 5 115 108 97  e5) mo_X9_is (tat ok_X9_actNow_0 (i := 30) (q := 58) rfl rfl) ml_X9_117 rfl ⟨by decide, _, rfl, rfl⟩ ⟨(Nat.le_of_ble_eq_true rfl), (Nat.le_of_ble_eq_true rfl)⟩ ⟨(Nat.le_of_ble_eq_true rfl), (Nat.le_of_ble_eq_true rfl)⟩ (Nat.le_of_ble_eq_true rfl) <|
    V_if_eq (tat ok_X9_actNow_0 (i := 31) (q := 61) rfl rfl) rfl (fun c6 => V_X9_actNow_78  hr (jq (P := oP P) kq (Eq.trans (ob e5) (if_pos c6)))) (fun c6 => V_aload_n (tat ok_X9_actNow_0 (i := 32) (q := 62) rfl rfl) 0 rfl rfl <|
    V_iconst (tat ok_X9_actNow_0 (i := 33) (q := 63) rfl rfl) ic_3 <|
    V_bipush (tat ok_X9_actNow_0 (i := 34) (q := 65) rfl rfl) bp_110 <|
    V_bipush (tat ok_X9_actNow_0 (i := 35) (q := 67) rfl rfl) bp_116 <|
    V_iconst (tat ok_X9_actNow_0 (i := 36) (q := 68) rfl rfl) ic_0 <|
    oP_case (jq (P := oP P) kq (Eq.trans (ob e5) (if_neg c6))) (fun v7 e7 _ => V_cv4 (ct_X9_goesOn I L 3 110 116 0  e7) mo_X9_goesOn (tat ok_X9_actNow_0 (i := 37) (q := 71) rfl rfl) ml_X9_121 rfl ⟨by decide, _, rfl, rfl⟩ ⟨(Nat.le_of_ble_eq_true rfl), (Nat.le_of_ble_eq_true rfl)⟩ ⟨(Nat.le_of_ble_eq_true rfl), (Nat.le_of_ble_eq_true rfl)⟩ (Nat.le_of_ble_eq_true rfl) <|
    V_if_eq (tat ok_X9_actNow_0 (i := 38) (q := 74) rfl rfl) rfl (fun c8 => V_X9_actNow_78  hr (jq (P := oP P) kq (Eq.trans (ob e5) (Eq.trans (if_neg c6) (Eq.trans (ob e7) (if_pos c8)))))) (fun c8 => V_iconst (tat ok_X9_actNow_0 (i := 39) (q := 75) rfl rfl) ic_2 <|
    V_goto (tat ok_X9_actNow_1 (i := 0) (q := 78) rfl rfl) rfl <|
    V_X9_actNow_80  hr (jq (P := oP P) kq (Eq.trans (ob e5) (Eq.trans (if_neg c6) (Eq.trans (ob e7) (if_neg c8)))))))))
def F_X9_actNow (I : WI) : Option Int32 :=
  (Option.bind (F_X9_is I 3 114 111 119) (fun v1 => (if v1 = 0 then (Option.bind (F_X9_is I 6 99 111 108) (fun v3 => (if v3 = 0 then (F_X9_actNow_47 I) else (Option.bind (F_X9_goesOn I 3 117 109 110) (fun v9 => (if v9 = 0 then (F_X9_actNow_47 I) else some 1)))))) else some 0)))
theorem V_X9_actNow  {I : WI} {L : WL}   {P : Int32 → Prop} {t : Tg} (hr : ∀ v, P v → t = (some (.int v), ly0, I, L, R0)) : oP P (F_X9_actNow I) → V (zM x_X9_actNow 3 0 0 t) 0 [(0, .ref 33)] [] ly0 I L R0 0 0 :=
  fun _ =>
  have kq : (oP P (F_X9_actNow I)) ∧ True := ⟨by assumption, trivial⟩
  V_aload_n (tat ok_X9_actNow_0 (i := 0) (q := 1) rfl rfl) 0 rfl rfl <|
    V_iconst (tat ok_X9_actNow_0 (i := 1) (q := 2) rfl rfl) ic_3 <|
    V_bipush (tat ok_X9_actNow_0 (i := 2) (q := 4) rfl rfl) bp_114 <|
    V_bipush (tat ok_X9_actNow_0 (i := 3) (q := 6) rfl rfl) bp_111 <|
    V_bipush (tat ok_X9_actNow_0 (i := 4) (q := 8) rfl rfl) bp_119 <|
    oP_case (jq (P := oP P) kq rfl) (fun v1 e1 _ => V_cv4 (ct_X9_is I L 3 114 111 119  e1) mo_X9_is (tat ok_X9_actNow_0 (i := 5) (q := 11) rfl rfl) ml_X9_117 rfl ⟨by decide, _, rfl, rfl⟩ ⟨(Nat.le_of_ble_eq_true rfl), (Nat.le_of_ble_eq_true rfl)⟩ ⟨(Nat.le_of_ble_eq_true rfl), (Nat.le_of_ble_eq_true rfl)⟩ (Nat.le_of_ble_eq_true rfl) <|
    V_if_eq (tat ok_X9_actNow_0 (i := 6) (q := 14) rfl rfl) rfl (fun c2 => V_aload_n (tat ok_X9_actNow_0 (i := 9) (q := 17) rfl rfl) 0 rfl rfl <|
    V_bipush (tat ok_X9_actNow_0 (i := 10) (q := 19) rfl rfl) bp_6 <|
    V_bipush (tat ok_X9_actNow_0 (i := 11) (q := 21) rfl rfl) bp_99 <|
    V_bipush (tat ok_X9_actNow_0 (i := 12) (q := 23) rfl rfl) bp_111 <|
    V_bipush (tat ok_X9_actNow_0 (i := 13) (q := 25) rfl rfl) bp_108 <|
    oP_case (jq (P := oP P) kq (Eq.trans (ob e1) (if_pos c2))) (fun v3 e3 _ => V_cv4 (ct_X9_is I L 6 99 111 108  e3) mo_X9_is (tat ok_X9_actNow_0 (i := 14) (q := 28) rfl rfl) ml_X9_117 rfl ⟨by decide, _, rfl, rfl⟩ ⟨(Nat.le_of_ble_eq_true rfl), (Nat.le_of_ble_eq_true rfl)⟩ ⟨(Nat.le_of_ble_eq_true rfl), (Nat.le_of_ble_eq_true rfl)⟩ (Nat.le_of_ble_eq_true rfl) <|
    V_if_eq (tat ok_X9_actNow_0 (i := 15) (q := 31) rfl rfl) rfl (fun c4 => V_X9_actNow_47  hr (jq (P := oP P) kq (Eq.trans (ob e1) (Eq.trans (if_pos c2) (Eq.trans (ob e3) (if_pos c4)))))) (fun c4 => V_aload_n (tat ok_X9_actNow_0 (i := 16) (q := 32) rfl rfl) 0 rfl rfl <|
    V_iconst (tat ok_X9_actNow_0 (i := 17) (q := 33) rfl rfl) ic_3 <|
    V_bipush (tat ok_X9_actNow_0 (i := 18) (q := 35) rfl rfl) bp_117 <|
    V_bipush (tat ok_X9_actNow_0 (i := 19) (q := 37) rfl rfl) bp_109 <|
    V_bipush (tat ok_X9_actNow_0 (i := 20) (q := 39) rfl rfl) bp_110 <|
    oP_case (jq (P := oP P) kq (Eq.trans (ob e1) (Eq.trans (if_pos c2) (Eq.trans (ob e3) (if_neg c4))))) (fun v9 e9 _ => V_cv4 (ct_X9_goesOn I L 3 117 109 110  e9) mo_X9_goesOn (tat ok_X9_actNow_0 (i := 21) (q := 42) rfl rfl) ml_X9_121 rfl ⟨by decide, _, rfl, rfl⟩ ⟨(Nat.le_of_ble_eq_true rfl), (Nat.le_of_ble_eq_true rfl)⟩ ⟨(Nat.le_of_ble_eq_true rfl), (Nat.le_of_ble_eq_true rfl)⟩ (Nat.le_of_ble_eq_true rfl) <|
    V_if_eq (tat ok_X9_actNow_0 (i := 22) (q := 45) rfl rfl) rfl (fun c10 => V_X9_actNow_47  hr (jq (P := oP P) kq (Eq.trans (ob e1) (Eq.trans (if_pos c2) (Eq.trans (ob e3) (Eq.trans (if_neg c4) (Eq.trans (ob e9) (if_pos c10)))))))) (fun c10 => V_iconst (tat ok_X9_actNow_0 (i := 23) (q := 46) rfl rfl) ic_1 <|
    V_iret (tat ok_X9_actNow_0 (i := 24) (q := 47) rfl rfl) _ rfl (nar_int _) (hr 1 (jq (P := oP P) kq (Eq.trans (ob e1) (Eq.trans (if_pos c2) (Eq.trans (ob e3) (Eq.trans (if_neg c4) (Eq.trans (ob e9) (if_neg c10)))))))) ⟨(Nat.le_of_ble_eq_true rfl), (Nat.le_of_ble_eq_true rfl)⟩))))) (fun c2 => V_iconst (tat ok_X9_actNow_0 (i := 7) (q := 15) rfl rfl) ic_0 <|
    V_iret (tat ok_X9_actNow_0 (i := 8) (q := 16) rfl rfl) _ rfl (nar_int _) (hr 0 (jq (P := oP P) kq (Eq.trans (ob e1) (if_neg c2)))) ⟨(Nat.le_of_ble_eq_true rfl), (Nat.le_of_ble_eq_true rfl)⟩))
theorem ct_X9_actNow  (I : WI) (L : WL)  {v : Int32} (h : (F_X9_actNow I) = some v) : Ct x_X9_actNow 3 [.ref 33] ly0 I L R0 0 0 (some (.int v), ly0, I, L, R0) :=
  Ct_of_V mo_X9_actNow.1 (Nat.le_of_ble_eq_true rfl) (V_X9_actNow (P := fun x => x = v)  (fun _ e => by rw [e]) (by rw [h]; exact rfl))
def F_X9_isRowName_56_1 (I : WI) (a2 : Int32) (s0 : Int32) : Option Int32 :=
  some s0
theorem V_X9_isRowName_56_1  {I : WI} {L : WL} {a2 : Int32} {s0 : Int32} {P : Int32 → Prop} {t : Tg} (hs0 : bz s0 = s0) (hk : ∀ x : Int32, P x → V (zM x_X9_isRowName 2 0 0 t) 19 [(0, .ref 33), (1, .int x), (2, .int (a2 + 1))] [] ly0 I L R0 0 0) : oP P (F_X9_isRowName_56_1 I a2 s0) → V (zM x_X9_isRowName 2 0 0 t) 56 [(0, .ref 33), (2, .int a2)] [.int s0] ly0 I L R0 0 0 :=
  fun _ =>
  have kq : (oP P (F_X9_isRowName_56_1 I a2 s0)) ∧ True := ⟨by assumption, trivial⟩
  V_istore_n (lv' := [(1, .int s0), (0, .ref 33), (2, .int a2)]) (tat ok_X9_isRowName_0 (i := 30) (q := 57) rfl rfl) rfl (Nat.le_of_ble_eq_true rfl) rfl <|
    V_iinc (v := (a2 + 1)) (lv' := [(2, .int (a2 + 1)), (1, .int s0), (0, .ref 33)]) (tat ok_X9_isRowName_0 (i := 31) (q := 60) rfl rfl) 2 rfl (ia ic_1) (Nat.le_of_ble_eq_true rfl) rfl <|
    V_goto (tat ok_X9_isRowName_0 (i := 32) (q := 63) rfl rfl) rfl <|
    V_pick [2, 1, 0] rfl (hk s0 (jq (P := oP P) kq rfl))
def F_X9_isRowName_55_1 (I : WI) (a2 : Int32) : Option Int32 :=
  (F_X9_isRowName_56_1 I a2 0)
theorem V_X9_isRowName_55_1  {I : WI} {L : WL} {a2 : Int32}  {P : Int32 → Prop} {t : Tg} (hk : ∀ x : Int32, P x → V (zM x_X9_isRowName 2 0 0 t) 19 [(0, .ref 33), (1, .int x), (2, .int (a2 + 1))] [] ly0 I L R0 0 0) : oP P (F_X9_isRowName_55_1 I a2) → V (zM x_X9_isRowName 2 0 0 t) 55 [(0, .ref 33), (2, .int a2)] [] ly0 I L R0 0 0 :=
  fun _ =>
  have kq : (oP P (F_X9_isRowName_55_1 I a2)) ∧ True := ⟨by assumption, trivial⟩
  V_iconst (tat ok_X9_isRowName_0 (i := 29) (q := 56) rfl rfl) ic_0 <|
    V_X9_isRowName_56_1 rfl hk (jq (P := oP P) kq rfl)
def F_X9_isRowName_51_1 (I : WI) (a2 : Int32) : Option Int32 :=
  (F_X9_isRowName_56_1 I a2 1)
theorem V_X9_isRowName_51_1  {I : WI} {L : WL} {a2 : Int32}  {P : Int32 → Prop} {t : Tg} (hk : ∀ x : Int32, P x → V (zM x_X9_isRowName 2 0 0 t) 19 [(0, .ref 33), (1, .int x), (2, .int (a2 + 1))] [] ly0 I L R0 0 0) : oP P (F_X9_isRowName_51_1 I a2) → V (zM x_X9_isRowName 2 0 0 t) 51 [(0, .ref 33), (2, .int a2)] [] ly0 I L R0 0 0 :=
  fun _ =>
  have kq : (oP P (F_X9_isRowName_51_1 I a2)) ∧ True := ⟨by assumption, trivial⟩
  V_iconst (tat ok_X9_isRowName_0 (i := 27) (q := 52) rfl rfl) ic_1 <|
    V_goto (tat ok_X9_isRowName_0 (i := 28) (q := 55) rfl rfl) rfl <|
    V_X9_isRowName_56_1 rfl hk (jq (P := oP P) kq rfl)
def F_X9_isRowName_27_1 (I : WI) (a2 : Int32) (a1 : Int32) : Option Int32 :=
  (if a1 = 0 then (F_X9_isRowName_55_1 I a2) else (Option.bind (F_X9_look I a2) (fun v3 => (if v3 = 100 then (F_X9_isRowName_51_1 I a2) else (Option.bind (F_X9_look I a2) (fun v5 => (if v5 = 108 then (F_X9_isRowName_51_1 I a2) else (F_X9_isRowName_55_1 I a2))))))))
theorem V_X9_isRowName_27_1  {I : WI} {L : WL} {a2 : Int32} {a1 : Int32} {P : Int32 → Prop} {t : Tg} (hk : ∀ x : Int32, P x → V (zM x_X9_isRowName 2 0 0 t) 19 [(0, .ref 33), (1, .int x), (2, .int (a2 + 1))] [] ly0 I L R0 0 0) : oP P (F_X9_isRowName_27_1 I a2 a1) → V (zM x_X9_isRowName 2 0 0 t) 27 [(0, .ref 33), (1, .int a1), (2, .int a2)] [] ly0 I L R0 0 0 :=
  fun _ =>
  have kq : (oP P (F_X9_isRowName_27_1 I a2 a1)) ∧ True := ⟨by assumption, trivial⟩
  V_iload_n (tat ok_X9_isRowName_0 (i := 15) (q := 28) rfl rfl) 1 rfl rfl <|
    V_if_eq (tat ok_X9_isRowName_0 (i := 16) (q := 31) rfl rfl) rfl (fun c2 => V_pick [0, 2] rfl (V_X9_isRowName_55_1  hk (jq (P := oP P) kq (if_pos c2)))) (fun c2 => V_aload_n (tat ok_X9_isRowName_0 (i := 17) (q := 32) rfl rfl) 0 rfl rfl <|
    V_iload_n (tat ok_X9_isRowName_0 (i := 18) (q := 33) rfl rfl) 2 rfl rfl <|
    oP_case (jq (P := oP P) kq (if_neg c2)) (fun v3 e3 _ => V_cv1 (ct_X9_look I L a2  e3) mo_X9_look (tat ok_X9_isRowName_0 (i := 19) (q := 36) rfl rfl) ml_X9_113 rfl ⟨by decide, _, rfl, rfl⟩ ⟨(Nat.le_of_ble_eq_true rfl), (Nat.le_of_ble_eq_true rfl)⟩ ⟨(Nat.le_of_ble_eq_true rfl), (Nat.le_of_ble_eq_true rfl)⟩ (Nat.le_of_ble_eq_true rfl) <|
    V_bipush (tat ok_X9_isRowName_0 (i := 20) (q := 38) rfl rfl) bp_100 <|
    V_icmp_eq (tat ok_X9_isRowName_0 (i := 21) (q := 41) rfl rfl) rfl (fun c4 => V_pick [0, 2] rfl (V_X9_isRowName_51_1  hk (jq (P := oP P) kq (Eq.trans (if_neg c2) (Eq.trans (ob e3) (if_pos c4)))))) (fun c4 => V_aload_n (tat ok_X9_isRowName_0 (i := 22) (q := 42) rfl rfl) 0 rfl rfl <|
    V_iload_n (tat ok_X9_isRowName_0 (i := 23) (q := 43) rfl rfl) 2 rfl rfl <|
    oP_case (jq (P := oP P) kq (Eq.trans (if_neg c2) (Eq.trans (ob e3) (if_neg c4)))) (fun v5 e5 _ => V_cv1 (ct_X9_look I L a2  e5) mo_X9_look (tat ok_X9_isRowName_0 (i := 24) (q := 46) rfl rfl) ml_X9_113 rfl ⟨by decide, _, rfl, rfl⟩ ⟨(Nat.le_of_ble_eq_true rfl), (Nat.le_of_ble_eq_true rfl)⟩ ⟨(Nat.le_of_ble_eq_true rfl), (Nat.le_of_ble_eq_true rfl)⟩ (Nat.le_of_ble_eq_true rfl) <|
    V_bipush (tat ok_X9_isRowName_0 (i := 25) (q := 48) rfl rfl) bp_108 <|
    V_icmp_ne (tat ok_X9_isRowName_0 (i := 26) (q := 51) rfl rfl) rfl (fun c6 => V_pick [0, 2] rfl (V_X9_isRowName_55_1  hk (jq (P := oP P) kq (Eq.trans (if_neg c2) (Eq.trans (ob e3) (Eq.trans (if_neg c4) (Eq.trans (ob e5) (if_neg c6)))))))) (fun c6 => V_pick [0, 2] rfl (V_X9_isRowName_51_1  hk (jq (P := oP P) kq (Eq.trans (if_neg c2) (Eq.trans (ob e3) (Eq.trans (if_neg c4) (Eq.trans (ob e5) (if_pos c6))))))))))))
def F_X9_isRowName_63 (I : WI)  (a1 : Int32) : Option Int32 :=
  (if bz a1 = a1 then some a1 else none)
theorem V_X9_isRowName_63  {I : WI} {L : WL}  {a1 : Int32} {P : Int32 → Prop} {t : Tg} (hr : ∀ v, P v → t = (some (.int v), ly0, I, L, R0)) : oP P (F_X9_isRowName_63 I a1) → V (zM x_X9_isRowName 2 0 0 t) 63 [(0, .ref 33), (1, .int a1)] [] ly0 I L R0 0 0 :=
  fun _ =>
  have kq : (oP P (F_X9_isRowName_63 I a1)) ∧ True := ⟨by assumption, trivial⟩
  V_iload_n (tat ok_X9_isRowName_0 (i := 33) (q := 64) rfl rfl) 1 rfl rfl <|
    (if c7 : bz a1 = a1 then V_iret (tat ok_X9_isRowName_0 (i := 34) (q := 65) rfl rfl) _ rfl (bz_nf c7).1 (hr a1 (jq (P := oP P) kq (if_pos c7))) ⟨(Nat.le_of_ble_eq_true rfl), (Nat.le_of_ble_eq_true rfl)⟩ else ((jq (P := oP P) kq (if_neg c7))).elim)
def F_X9_isRowName_19 (I : WI)  (a1 : Int32) (a2 : Int32) : Option Int32 :=
  (frp0 (fun i x => (F_X9_isRowName_27_1 I i x)) (I 33 22) (fu a2 (I 33 22)) a2 a1).bind (fun q => (F_X9_isRowName_63 I (p2 q)))
theorem V_X9_isRowName_19  {I : WI} {L : WL}  {a1 : Int32} {a2 : Int32} {P : Int32 → Prop} {t : Tg} (hb1 : bz a1 = a1) (hr : ∀ v, P v → t = (some (.int v), ly0, I, L, R0)) (kk : oP P (F_X9_isRowName_19 I a1 a2)) : V (zM x_X9_isRowName 2 0 0 t) 19 [(0, .ref 33), (1, .int a1), (2, .int a2)] [] ly0 I L R0 0 0 :=
  V_frp0 (fun i x => (F_X9_isRowName_27_1 I i x)) (I 33 22) (fun i x => V (zM x_X9_isRowName 2 0 0 t) 19 [(0, .ref 33), (1, .int x), (2, .int i)] [] ly0 I L R0 0 0) (fun i x => oP P ((F_X9_isRowName_63 I x))) (c := a2) (s := a1) (fun i x kx kb => V_iload_n (tat ok_X9_isRowName_0 (i := 11) (q := 20) rfl rfl) 2 rfl rfl <|
    V_aload_n (tat ok_X9_isRowName_0 (i := 12) (q := 21) rfl rfl) 0 rfl rfl <|
    V_getI (tat ok_X9_isRowName_0 (i := 13) (q := 24) rfl rfl) fk_X9_110 rfl <|
    V_icmp_ge (tat ok_X9_isRowName_0 (i := 14) (q := 27) rfl rfl) rfl (fun c0 => V_pick [0, 1] rfl (V_X9_isRowName_63  hr (kx c0))) (fun c0 => V_X9_isRowName_27_1 (P := (fun x => (fun i x => V (zM x_X9_isRowName 2 0 0 t) 19 [(0, .ref 33), (1, .int x), (2, .int i)] [] ly0 I L R0 0 0) (i + 1) x))  (fun _ e => e) (kb c0))) (oP_bind (f := fun q => _) kk)
def F_X9_isRowName_13 (I : WI)  (s0 : Int32) : Option Int32 :=
  (F_X9_isRowName_19 I s0 (I 33 23))
theorem V_X9_isRowName_13  {I : WI} {L : WL}  {s0 : Int32} {P : Int32 → Prop} {t : Tg} (hs0 : bz s0 = s0) (hr : ∀ v, P v → t = (some (.int v), ly0, I, L, R0)) : oP P (F_X9_isRowName_13 I s0) → V (zM x_X9_isRowName 2 0 0 t) 13 [(0, .ref 33)] [.int s0] ly0 I L R0 0 0 :=
  fun _ =>
  have kq : (oP P (F_X9_isRowName_13 I s0)) ∧ True := ⟨by assumption, trivial⟩
  V_istore_n (lv' := [(1, .int s0), (0, .ref 33)]) (tat ok_X9_isRowName_0 (i := 7) (q := 14) rfl rfl) rfl (Nat.le_of_ble_eq_true rfl) rfl <|
    V_aload_n (tat ok_X9_isRowName_0 (i := 8) (q := 15) rfl rfl) 1 rfl rfl <|
    V_getI (tat ok_X9_isRowName_0 (i := 9) (q := 18) rfl rfl) fk_X9_104 rfl <|
    V_istore_n (lv' := [(2, .int (I 33 23)), (1, .int s0), (0, .ref 33)]) (tat ok_X9_isRowName_0 (i := 10) (q := 19) rfl rfl) rfl (Nat.le_of_ble_eq_true rfl) rfl <|
    V_pick [2, 1, 0] rfl (V_X9_isRowName_19 hs0 hr (jq (P := oP P) kq rfl))
def F_X9_isRowName (I : WI) : Option Int32 :=
  (if (I 33 24) = 1 then (F_X9_isRowName_13 I 1) else (F_X9_isRowName_13 I 0))
theorem V_X9_isRowName  {I : WI} {L : WL}   {P : Int32 → Prop} {t : Tg} (hr : ∀ v, P v → t = (some (.int v), ly0, I, L, R0)) : oP P (F_X9_isRowName I) → V (zM x_X9_isRowName 2 0 0 t) 0 [(0, .ref 33)] [] ly0 I L R0 0 0 :=
  fun _ =>
  have kq : (oP P (F_X9_isRowName I)) ∧ True := ⟨by assumption, trivial⟩
  V_aload_n (tat ok_X9_isRowName_0 (i := 0) (q := 1) rfl rfl) 0 rfl rfl <|
    V_getI (tat ok_X9_isRowName_0 (i := 1) (q := 4) rfl rfl) fk_X9_124 rfl <|
    V_iconst (tat ok_X9_isRowName_0 (i := 2) (q := 5) rfl rfl) ic_1 <|
    V_icmp_ne (tat ok_X9_isRowName_0 (i := 3) (q := 8) rfl rfl) rfl (fun c1 => V_iconst (tat ok_X9_isRowName_0 (i := 6) (q := 13) rfl rfl) ic_0 <|
    V_X9_isRowName_13 rfl hr (jq (P := oP P) kq (if_neg c1))) (fun c1 => V_iconst (tat ok_X9_isRowName_0 (i := 4) (q := 9) rfl rfl) ic_1 <|
    V_goto (tat ok_X9_isRowName_0 (i := 5) (q := 12) rfl rfl) rfl <|
    V_X9_isRowName_13 rfl hr (jq (P := oP P) kq (if_pos c1)))
theorem ct_X9_isRowName  (I : WI) (L : WL)  {v : Int32} (h : (F_X9_isRowName I) = some v) : Ct x_X9_isRowName 2 [.ref 33] ly0 I L R0 0 0 (some (.int v), ly0, I, L, R0) :=
  Ct_of_V mo_X9_isRowName.1 (Nat.le_of_ble_eq_true rfl) (V_X9_isRowName (P := fun x => x = v)  (fun _ e => by rw [e]) (by rw [h]; exact rfl))
def F_X9_next_8_1 (I : WI) : Option (WI ⊕ WI) :=
  (Option.bind (F_X9_look I (I 33 22)) (fun v2 => (if v2 = 32 then some (.inr (u2 I 33 22 ((I 33 22) + 1))) else some (.inl I))))
theorem V_X9_next_8_1  {I : WI} {L : WL}   {P : (WI ⊕ WI) → Prop} {t : Tg} (he : ∀ x : WI, P (.inl x) → V (zM x_X9_next 2 0 0 t) 34 [(0, .ref 33)] [] ly0 x L R0 0 0) (hk : ∀ x : WI, P (.inr x) → V (zM x_X9_next 2 0 0 t) 8 [(0, .ref 33)] [] ly0 x L R0 0 0) : oP P (F_X9_next_8_1 I) → V (zM x_X9_next 2 0 0 t) 8 [(0, .ref 33)] [] ly0 I L R0 0 0 :=
  fun _ =>
  have kq : (oP P (F_X9_next_8_1 I)) ∧ True := ⟨by assumption, trivial⟩
  V_aload_n (tat ok_X9_next_0 (i := 4) (q := 9) rfl rfl) 0 rfl rfl <|
    V_aload_n (tat ok_X9_next_0 (i := 5) (q := 10) rfl rfl) 0 rfl rfl <|
    V_getI (tat ok_X9_next_0 (i := 6) (q := 13) rfl rfl) fk_X9_110 rfl <|
    oP_case (jq (P := oP P) kq rfl) (fun v2 e2 _ => V_cv1 (ct_X9_look I L (I 33 22)  e2) mo_X9_look (tat ok_X9_next_0 (i := 7) (q := 16) rfl rfl) ml_X9_113 rfl ⟨by decide, _, rfl, rfl⟩ ⟨(Nat.le_of_ble_eq_true rfl), (Nat.le_of_ble_eq_true rfl)⟩ ⟨(Nat.le_of_ble_eq_true rfl), (Nat.le_of_ble_eq_true rfl)⟩ (Nat.le_of_ble_eq_true rfl) <|
    V_bipush (tat ok_X9_next_0 (i := 8) (q := 18) rfl rfl) bp_32 <|
    V_icmp_ne (tat ok_X9_next_0 (i := 9) (q := 21) rfl rfl) rfl (fun c3 => he I (jq (P := oP P) kq (Eq.trans (ob e2) (if_neg c3)))) (fun c3 => V_aload_n (tat ok_X9_next_0 (i := 10) (q := 22) rfl rfl) 0 rfl rfl <|
    V_dup (tat ok_X9_next_0 (i := 11) (q := 23) rfl rfl) rfl <|
    V_getI (tat ok_X9_next_0 (i := 12) (q := 26) rfl rfl) fk_X9_110 rfl <|
    V_iconst (tat ok_X9_next_0 (i := 13) (q := 27) rfl rfl) ic_1 <|
    V_iadd (tat ok_X9_next_0 (i := 14) (q := 28) rfl rfl) <|
    V_putI (tat ok_X9_next_0 (i := 15) (q := 31) rfl rfl) fk_X9_110 rfl rfl <|
    V_goto (tat ok_X9_next_0 (i := 16) (q := 34) rfl rfl) rfl <|
    hk (u2 I 33 22 ((I 33 22) + 1)) (jq (P := oP P) kq (Eq.trans (ob e2) (if_pos c3)))))
def F_X9_next_274 (I : WI) : Option WI :=
  some I
theorem V_X9_next_274  {I : WI} {L : WL}   {P : WI → Prop} {t : Tg} (hr : ∀ v, P v → t = (none, ly0, v, L, R0)) : oP P (F_X9_next_274 I) → V (zM x_X9_next 2 0 0 t) 274 [(0, .ref 33)] [] ly0 I L R0 0 0 :=
  fun _ =>
  have kq : (oP P (F_X9_next_274 I)) ∧ True := ⟨by assumption, trivial⟩
  V_vret (tat ok_X9_next_3 (i := 20) (q := 275) rfl rfl) rfl (hr I (jq (P := oP P) kq rfl)) ⟨(Nat.le_of_ble_eq_true rfl), (Nat.le_of_ble_eq_true rfl)⟩
def F_X9_next_260 (I : WI)  (s0 : Int32) : Option WI :=
  (F_X9_next_274 (u2 (F_X9_needs I s0 1) 33 22 (((F_X9_needs I s0 1) 33 22) + 1)))
theorem V_X9_next_260  {I : WI} {L : WL}  {s0 : Int32} {P : WI → Prop} {t : Tg} (hs0 : bz s0 = s0) (hr : ∀ v, P v → t = (none, ly0, v, L, R0)) : oP P (F_X9_next_260 I s0) → V (zM x_X9_next 2 0 0 t) 260 [(0, .ref 33)] [.int s0, .ref 33] ly0 I L R0 0 0 :=
  fun _ =>
  have kq : (oP P (F_X9_next_260 I s0)) ∧ True := ⟨by assumption, trivial⟩
  V_iconst (tat ok_X9_next_3 (i := 12) (q := 261) rfl rfl) ic_1 <|
    V_cv2v (ct_X9_needs I L s0 1 ) mo_X9_needs (tat ok_X9_next_3 (i := 13) (q := 264) rfl rfl) ml_X9_138 rfl ⟨by decide, _, rfl, rfl⟩ ⟨(Nat.le_of_ble_eq_true rfl), (Nat.le_of_ble_eq_true rfl)⟩ ⟨(Nat.le_of_ble_eq_true rfl), (Nat.le_of_ble_eq_true rfl)⟩ (Nat.le_of_ble_eq_true rfl) <|
    V_aload_n (tat ok_X9_next_3 (i := 14) (q := 265) rfl rfl) 0 rfl rfl <|
    V_dup (tat ok_X9_next_3 (i := 15) (q := 266) rfl rfl) rfl <|
    V_getI (tat ok_X9_next_3 (i := 16) (q := 269) rfl rfl) fk_X9_110 rfl <|
    V_iconst (tat ok_X9_next_3 (i := 17) (q := 270) rfl rfl) ic_1 <|
    V_iadd (tat ok_X9_next_3 (i := 18) (q := 271) rfl rfl) <|
    V_putI (tat ok_X9_next_3 (i := 19) (q := 274) rfl rfl) fk_X9_110 rfl rfl <|
    V_X9_next_274  hr (jq (P := oP P) kq rfl)
def F_X9_next_201_2 (I : WI)  (s0 : Int32) : Option (WI ⊕ WI) :=
  some (.inr (u2 (u2 I 33 25 s0) 33 22 (((u2 I 33 25 s0) 33 22) + 1)))
theorem V_X9_next_201_2  {I : WI} {L : WL}  {s0 : Int32} {P : (WI ⊕ WI) → Prop} {t : Tg} (he : ∀ x : WI, P (.inl x) → V (zM x_X9_next 2 0 0 t) 217 [(0, .ref 33)] [] ly0 x L R0 0 0) (hk : ∀ x : WI, P (.inr x) → V (zM x_X9_next 2 0 0 t) 140 [(0, .ref 33)] [] ly0 x L R0 0 0) : oP P (F_X9_next_201_2 I s0) → V (zM x_X9_next 2 0 0 t) 201 [(0, .ref 33)] [.int s0, .ref 33] ly0 I L R0 0 0 :=
  fun _ =>
  have kq : (oP P (F_X9_next_201_2 I s0)) ∧ True := ⟨by assumption, trivial⟩
  V_putI (tat ok_X9_next_2 (i := 20) (q := 204) rfl rfl) fk_X9_135 rfl rfl <|
    V_aload_n (tat ok_X9_next_2 (i := 21) (q := 205) rfl rfl) 0 rfl rfl <|
    V_dup (tat ok_X9_next_2 (i := 22) (q := 206) rfl rfl) rfl <|
    V_getI (tat ok_X9_next_2 (i := 23) (q := 209) rfl rfl) fk_X9_110 rfl <|
    V_iconst (tat ok_X9_next_2 (i := 24) (q := 210) rfl rfl) ic_1 <|
    V_iadd (tat ok_X9_next_2 (i := 25) (q := 211) rfl rfl) <|
    V_putI (tat ok_X9_next_2 (i := 26) (q := 214) rfl rfl) fk_X9_110 rfl rfl <|
    V_goto (tat ok_X9_next_2 (i := 27) (q := 217) rfl rfl) rfl <|
    hk (u2 (u2 I 33 25 s0) 33 22 (((u2 I 33 25 s0) 33 22) + 1)) (jq (P := oP P) kq rfl)
def F_X9_next_140_2 (I : WI) : Option (WI ⊕ WI) :=
  (Option.bind (F_X9_look I (I 33 22)) (fun v9 => (if (F_X9_in (Int32.toInt64 v9) 48 57) = 0 then some (.inl I) else (if 2 ≤ ((I 33 22) - (I 33 23)) then (F_X9_next_201_2 I (I 33 25)) else (Option.bind (F_X9_look I (I 33 22)) (fun v12 => (F_X9_next_201_2 I (((10 * (I 33 25)) + v12) - 48))))))))
theorem V_X9_next_140_2  {I : WI} {L : WL}   {P : (WI ⊕ WI) → Prop} {t : Tg} (he : ∀ x : WI, P (.inl x) → V (zM x_X9_next 2 0 0 t) 217 [(0, .ref 33)] [] ly0 x L R0 0 0) (hk : ∀ x : WI, P (.inr x) → V (zM x_X9_next 2 0 0 t) 140 [(0, .ref 33)] [] ly0 x L R0 0 0) : oP P (F_X9_next_140_2 I) → V (zM x_X9_next 2 0 0 t) 140 [(0, .ref 33)] [] ly0 I L R0 0 0 :=
  fun _ =>
  have kq : (oP P (F_X9_next_140_2 I)) ∧ True := ⟨by assumption, trivial⟩
  V_aload_n (tat ok_X9_next_1 (i := 29) (q := 141) rfl rfl) 0 rfl rfl <|
    V_aload_n (tat ok_X9_next_1 (i := 30) (q := 142) rfl rfl) 0 rfl rfl <|
    V_getI (tat ok_X9_next_1 (i := 31) (q := 145) rfl rfl) fk_X9_110 rfl <|
    oP_case (jq (P := oP P) kq rfl) (fun v9 e9 _ => V_cv1 (ct_X9_look I L (I 33 22)  e9) mo_X9_look (tat ok_X9_next_1 (i := 32) (q := 148) rfl rfl) ml_X9_113 rfl ⟨by decide, _, rfl, rfl⟩ ⟨(Nat.le_of_ble_eq_true rfl), (Nat.le_of_ble_eq_true rfl)⟩ ⟨(Nat.le_of_ble_eq_true rfl), (Nat.le_of_ble_eq_true rfl)⟩ (Nat.le_of_ble_eq_true rfl) <|
    V_i2l (tat ok_X9_next_1 (i := 33) (q := 149) rfl rfl) <|
    V_ldc2 (tat ok_X9_next_1 (i := 34) (q := 152) rfl rfl) (gw_in kl_X9_131 rfl) <|
    V_ldc2 (tat ok_X9_next_1 (i := 35) (q := 155) rfl rfl) (gw_in kl_X9_133 rfl) <|
    V_cs3 (ct_X9_in I L (Int32.toInt64 v9) 48 57 ) mo_X9_in (tat ok_X9_next_1 (i := 36) (q := 158) rfl rfl) ml_X9_97 ⟨(Nat.le_of_ble_eq_true rfl), (Nat.le_of_ble_eq_true rfl)⟩ ⟨(Nat.le_of_ble_eq_true rfl), (Nat.le_of_ble_eq_true rfl)⟩ (Nat.le_of_ble_eq_true rfl) <|
    V_if_eq (tat ok_X9_next_1 (i := 37) (q := 161) rfl rfl) rfl (fun c10 => he I (jq (P := oP P) kq (Eq.trans (ob e9) (if_pos c10)))) (fun c10 => V_aload_n (tat ok_X9_next_1 (i := 38) (q := 162) rfl rfl) 0 rfl rfl <|
    V_aload_n (tat ok_X9_next_1 (i := 39) (q := 163) rfl rfl) 0 rfl rfl <|
    V_getI (tat ok_X9_next_2 (i := 0) (q := 166) rfl rfl) fk_X9_110 rfl <|
    V_aload_n (tat ok_X9_next_2 (i := 1) (q := 167) rfl rfl) 0 rfl rfl <|
    V_getI (tat ok_X9_next_2 (i := 2) (q := 170) rfl rfl) fk_X9_104 rfl <|
    V_isub (tat ok_X9_next_2 (i := 3) (q := 171) rfl rfl) <|
    V_iconst (tat ok_X9_next_2 (i := 4) (q := 172) rfl rfl) ic_2 <|
    V_icmp_ge (tat ok_X9_next_2 (i := 5) (q := 175) rfl rfl) rfl (fun c11 => V_aload_n (tat ok_X9_next_2 (i := 18) (q := 198) rfl rfl) 0 rfl rfl <|
    V_getI (tat ok_X9_next_2 (i := 19) (q := 201) rfl rfl) fk_X9_135 rfl <|
    V_X9_next_201_2  he hk (jq (P := oP P) kq (Eq.trans (ob e9) (Eq.trans (if_neg c10) (if_pos c11))))) (fun c11 => V_bipush (tat ok_X9_next_2 (i := 6) (q := 177) rfl rfl) bp_10 <|
    V_aload_n (tat ok_X9_next_2 (i := 7) (q := 178) rfl rfl) 0 rfl rfl <|
    V_getI (tat ok_X9_next_2 (i := 8) (q := 181) rfl rfl) fk_X9_135 rfl <|
    V_imul (tat ok_X9_next_2 (i := 9) (q := 182) rfl rfl) <|
    V_aload_n (tat ok_X9_next_2 (i := 10) (q := 183) rfl rfl) 0 rfl rfl <|
    V_aload_n (tat ok_X9_next_2 (i := 11) (q := 184) rfl rfl) 0 rfl rfl <|
    V_getI (tat ok_X9_next_2 (i := 12) (q := 187) rfl rfl) fk_X9_110 rfl <|
    oP_case (jq (P := oP P) kq (Eq.trans (ob e9) (Eq.trans (if_neg c10) (if_neg c11)))) (fun v12 e12 _ => V_cv1 (ct_X9_look I L (I 33 22)  e12) mo_X9_look (tat ok_X9_next_2 (i := 13) (q := 190) rfl rfl) ml_X9_113 rfl ⟨by decide, _, rfl, rfl⟩ ⟨(Nat.le_of_ble_eq_true rfl), (Nat.le_of_ble_eq_true rfl)⟩ ⟨(Nat.le_of_ble_eq_true rfl), (Nat.le_of_ble_eq_true rfl)⟩ (Nat.le_of_ble_eq_true rfl) <|
    V_iadd (tat ok_X9_next_2 (i := 14) (q := 191) rfl rfl) <|
    V_bipush (tat ok_X9_next_2 (i := 15) (q := 193) rfl rfl) bp_48 <|
    V_isub (tat ok_X9_next_2 (i := 16) (q := 194) rfl rfl) <|
    V_goto (tat ok_X9_next_2 (i := 17) (q := 197) rfl rfl) rfl <|
    V_X9_next_201_2  he hk (jq (P := oP P) kq (Eq.trans (ob e9) (Eq.trans (if_neg c10) (Eq.trans (if_neg c11) (ob e12)))))))))
def F_X9_next_236 (I : WI)  (s0 : Int32) : Option WI :=
  (F_X9_next_274 (F_X9_needs I s0 1))
theorem V_X9_next_236  {I : WI} {L : WL}  {s0 : Int32} {P : WI → Prop} {t : Tg} (hs0 : bz s0 = s0) (hr : ∀ v, P v → t = (none, ly0, v, L, R0)) : oP P (F_X9_next_236 I s0) → V (zM x_X9_next 2 0 0 t) 236 [(0, .ref 33)] [.int s0, .ref 33] ly0 I L R0 0 0 :=
  fun _ =>
  have kq : (oP P (F_X9_next_236 I s0)) ∧ True := ⟨by assumption, trivial⟩
  V_iconst (tat ok_X9_next_2 (i := 39) (q := 237) rfl rfl) ic_1 <|
    V_cv2v (ct_X9_needs I L s0 1 ) mo_X9_needs (tat ok_X9_next_3 (i := 0) (q := 240) rfl rfl) ml_X9_138 rfl ⟨by decide, _, rfl, rfl⟩ ⟨(Nat.le_of_ble_eq_true rfl), (Nat.le_of_ble_eq_true rfl)⟩ ⟨(Nat.le_of_ble_eq_true rfl), (Nat.le_of_ble_eq_true rfl)⟩ (Nat.le_of_ble_eq_true rfl) <|
    V_goto (tat ok_X9_next_3 (i := 1) (q := 243) rfl rfl) rfl <|
    V_X9_next_274  hr (jq (P := oP P) kq rfl)
def F_X9_next_217 (I : WI) : Option WI :=
  (if 2 < ((I 33 22) - (I 33 23)) then (F_X9_next_236 I 0) else (F_X9_next_236 I 1))
theorem V_X9_next_217  {I : WI} {L : WL}   {P : WI → Prop} {t : Tg} (hr : ∀ v, P v → t = (none, ly0, v, L, R0)) : oP P (F_X9_next_217 I) → V (zM x_X9_next 2 0 0 t) 217 [(0, .ref 33)] [] ly0 I L R0 0 0 :=
  fun _ =>
  have kq : (oP P (F_X9_next_217 I)) ∧ True := ⟨by assumption, trivial⟩
  V_aload_n (tat ok_X9_next_2 (i := 28) (q := 218) rfl rfl) 0 rfl rfl <|
    V_aload_n (tat ok_X9_next_2 (i := 29) (q := 219) rfl rfl) 0 rfl rfl <|
    V_getI (tat ok_X9_next_2 (i := 30) (q := 222) rfl rfl) fk_X9_110 rfl <|
    V_aload_n (tat ok_X9_next_2 (i := 31) (q := 223) rfl rfl) 0 rfl rfl <|
    V_getI (tat ok_X9_next_2 (i := 32) (q := 226) rfl rfl) fk_X9_104 rfl <|
    V_isub (tat ok_X9_next_2 (i := 33) (q := 227) rfl rfl) <|
    V_iconst (tat ok_X9_next_2 (i := 34) (q := 228) rfl rfl) ic_2 <|
    V_icmp_gt (tat ok_X9_next_2 (i := 35) (q := 231) rfl rfl) rfl (fun c13 => V_iconst (tat ok_X9_next_2 (i := 38) (q := 236) rfl rfl) ic_0 <|
    V_X9_next_236 rfl hr (jq (P := oP P) kq (if_pos c13))) (fun c13 => V_iconst (tat ok_X9_next_2 (i := 36) (q := 232) rfl rfl) ic_1 <|
    V_goto (tat ok_X9_next_2 (i := 37) (q := 235) rfl rfl) rfl <|
    V_X9_next_236 rfl hr (jq (P := oP P) kq (if_neg c13)))
def F_X9_next_140 (I : WI) : Option WI :=
  (lpp (fun x => (F_X9_next_140_2 x)) 4294967296 I).bind (fun q => (F_X9_next_217 q))
theorem V_X9_next_140  {I : WI} {L : WL}   {P : WI → Prop} {t : Tg} (hr : ∀ v, P v → t = (none, ly0, v, L, R0)) (kk : oP P (F_X9_next_140 I)) : V (zM x_X9_next 2 0 0 t) 140 [(0, .ref 33)] [] ly0 I L R0 0 0 :=
  V_lpp (fun x => (F_X9_next_140_2 x)) (fun x => V (zM x_X9_next 2 0 0 t) 140 [(0, .ref 33)] [] ly0 x L R0 0 0) (fun x => oP P ((F_X9_next_217 x))) (s := I) (fun x e0 => V_X9_next_140_2 (P := Sum.elim (fun x => oP P ((F_X9_next_217 x))) (fun x => V (zM x_X9_next 2 0 0 t) 140 [(0, .ref 33)] [] ly0 x L R0 0 0))  (fun x e => V_X9_next_217  hr e) (fun _ e => e) e0) (oP_bind (f := fun q => _) kk)
def F_X9_next_82_3 (I : WI) : Option (WI ⊕ WI) :=
  (Option.bind (F_X9_look I (I 33 22)) (fun v14 => (if (F_X9_in (Int32.toInt64 v14) 97 122) = 0 then some (.inl I) else some (.inr (u2 I 33 22 ((I 33 22) + 1))))))
theorem V_X9_next_82_3  {I : WI} {L : WL}   {P : (WI ⊕ WI) → Prop} {t : Tg} (he : ∀ x : WI, P (.inl x) → V (zM x_X9_next 2 0 0 t) 274 [(0, .ref 33)] [] ly0 x L R0 0 0) (hk : ∀ x : WI, P (.inr x) → V (zM x_X9_next 2 0 0 t) 82 [(0, .ref 33)] [] ly0 x L R0 0 0) : oP P (F_X9_next_82_3 I) → V (zM x_X9_next 2 0 0 t) 82 [(0, .ref 33)] [] ly0 I L R0 0 0 :=
  fun _ =>
  have kq : (oP P (F_X9_next_82_3 I)) ∧ True := ⟨by assumption, trivial⟩
  V_aload_n (tat ok_X9_next_1 (i := 1) (q := 83) rfl rfl) 0 rfl rfl <|
    V_aload_n (tat ok_X9_next_1 (i := 2) (q := 84) rfl rfl) 0 rfl rfl <|
    V_getI (tat ok_X9_next_1 (i := 3) (q := 87) rfl rfl) fk_X9_110 rfl <|
    oP_case (jq (P := oP P) kq rfl) (fun v14 e14 _ => V_cv1 (ct_X9_look I L (I 33 22)  e14) mo_X9_look (tat ok_X9_next_1 (i := 4) (q := 90) rfl rfl) ml_X9_113 rfl ⟨by decide, _, rfl, rfl⟩ ⟨(Nat.le_of_ble_eq_true rfl), (Nat.le_of_ble_eq_true rfl)⟩ ⟨(Nat.le_of_ble_eq_true rfl), (Nat.le_of_ble_eq_true rfl)⟩ (Nat.le_of_ble_eq_true rfl) <|
    V_i2l (tat ok_X9_next_1 (i := 5) (q := 91) rfl rfl) <|
    V_ldc2 (tat ok_X9_next_1 (i := 6) (q := 94) rfl rfl) (gw_in kl_X9_127 rfl) <|
    V_ldc2 (tat ok_X9_next_1 (i := 7) (q := 97) rfl rfl) (gw_in kl_X9_129 rfl) <|
    V_cs3 (ct_X9_in I L (Int32.toInt64 v14) 97 122 ) mo_X9_in (tat ok_X9_next_1 (i := 8) (q := 100) rfl rfl) ml_X9_97 ⟨(Nat.le_of_ble_eq_true rfl), (Nat.le_of_ble_eq_true rfl)⟩ ⟨(Nat.le_of_ble_eq_true rfl), (Nat.le_of_ble_eq_true rfl)⟩ (Nat.le_of_ble_eq_true rfl) <|
    V_if_eq (tat ok_X9_next_1 (i := 9) (q := 103) rfl rfl) rfl (fun c15 => he I (jq (P := oP P) kq (Eq.trans (ob e14) (if_pos c15)))) (fun c15 => V_aload_n (tat ok_X9_next_1 (i := 10) (q := 104) rfl rfl) 0 rfl rfl <|
    V_dup (tat ok_X9_next_1 (i := 11) (q := 105) rfl rfl) rfl <|
    V_getI (tat ok_X9_next_1 (i := 12) (q := 108) rfl rfl) fk_X9_110 rfl <|
    V_iconst (tat ok_X9_next_1 (i := 13) (q := 109) rfl rfl) ic_1 <|
    V_iadd (tat ok_X9_next_1 (i := 14) (q := 110) rfl rfl) <|
    V_putI (tat ok_X9_next_1 (i := 15) (q := 113) rfl rfl) fk_X9_110 rfl rfl <|
    V_goto (tat ok_X9_next_1 (i := 16) (q := 116) rfl rfl) rfl <|
    hk (u2 I 33 22 ((I 33 22) + 1)) (jq (P := oP P) kq (Eq.trans (ob e14) (if_neg c15)))))
def F_X9_next_82 (I : WI) : Option WI :=
  (lpp (fun x => (F_X9_next_82_3 x)) 4294967296 I).bind (fun q => (F_X9_next_274 q))
theorem V_X9_next_82  {I : WI} {L : WL}   {P : WI → Prop} {t : Tg} (hr : ∀ v, P v → t = (none, ly0, v, L, R0)) (kk : oP P (F_X9_next_82 I)) : V (zM x_X9_next 2 0 0 t) 82 [(0, .ref 33)] [] ly0 I L R0 0 0 :=
  V_lpp (fun x => (F_X9_next_82_3 x)) (fun x => V (zM x_X9_next 2 0 0 t) 82 [(0, .ref 33)] [] ly0 x L R0 0 0) (fun x => oP P ((F_X9_next_274 x))) (s := I) (fun x e0 => V_X9_next_82_3 (P := Sum.elim (fun x => oP P ((F_X9_next_274 x))) (fun x => V (zM x_X9_next 2 0 0 t) 82 [(0, .ref 33)] [] ly0 x L R0 0 0))  (fun x e => V_X9_next_274  hr e) (fun _ e => e) e0) (oP_bind (f := fun q => _) kk)
def F_X9_next_34 (I : WI) : Option WI :=
  (Option.bind (F_X9_look (u2 I 33 23 (I 33 22)) ((u2 I 33 23 (I 33 22)) 33 22)) (fun v4 => (if 0 ≤ v4 then (if (F_X9_in (Int32.toInt64 v4) 97 122) = 0 then (if (F_X9_in (Int32.toInt64 v4) 48 57) = 0 then (if v4 = 59 then (F_X9_next_260 (u2 (u2 I 33 23 (I 33 22)) 33 24 3) 1) else (F_X9_next_260 (u2 (u2 I 33 23 (I 33 22)) 33 24 3) 0)) else (F_X9_next_140 (u2 (u2 (u2 I 33 23 (I 33 22)) 33 24 2) 33 25 0))) else (F_X9_next_82 (u2 (u2 I 33 23 (I 33 22)) 33 24 1))) else (F_X9_next_274 (u2 (u2 I 33 23 (I 33 22)) 33 24 0)))))
theorem V_X9_next_34  {I : WI} {L : WL}   {P : WI → Prop} {t : Tg} (hr : ∀ v, P v → t = (none, ly0, v, L, R0)) : oP P (F_X9_next_34 I) → V (zM x_X9_next 2 0 0 t) 34 [(0, .ref 33)] [] ly0 I L R0 0 0 :=
  fun _ =>
  have kq : (oP P (F_X9_next_34 I)) ∧ True := ⟨by assumption, trivial⟩
  V_aload_n (tat ok_X9_next_0 (i := 17) (q := 35) rfl rfl) 0 rfl rfl <|
    V_aload_n (tat ok_X9_next_0 (i := 18) (q := 36) rfl rfl) 0 rfl rfl <|
    V_getI (tat ok_X9_next_0 (i := 19) (q := 39) rfl rfl) fk_X9_110 rfl <|
    V_putI (tat ok_X9_next_0 (i := 20) (q := 42) rfl rfl) fk_X9_104 rfl rfl <|
    V_aload_n (tat ok_X9_next_0 (i := 21) (q := 43) rfl rfl) 0 rfl rfl <|
    V_aload_n (tat ok_X9_next_0 (i := 22) (q := 44) rfl rfl) 0 rfl rfl <|
    V_getI (tat ok_X9_next_0 (i := 23) (q := 47) rfl rfl) fk_X9_110 rfl <|
    oP_case (jq (P := oP P) kq rfl) (fun v4 e4 _ => V_cv1 (ct_X9_look (u2 I 33 23 (I 33 22)) L ((u2 I 33 23 (I 33 22)) 33 22)  e4) mo_X9_look (tat ok_X9_next_0 (i := 24) (q := 50) rfl rfl) ml_X9_113 rfl ⟨by decide, _, rfl, rfl⟩ ⟨(Nat.le_of_ble_eq_true rfl), (Nat.le_of_ble_eq_true rfl)⟩ ⟨(Nat.le_of_ble_eq_true rfl), (Nat.le_of_ble_eq_true rfl)⟩ (Nat.le_of_ble_eq_true rfl) <|
    V_istore_n (lv' := [(1, .int v4), (0, .ref 33)]) (tat ok_X9_next_0 (i := 25) (q := 51) rfl rfl) rfl (Nat.le_of_ble_eq_true rfl) rfl <|
    V_iload_n (tat ok_X9_next_0 (i := 26) (q := 52) rfl rfl) 0 rfl rfl <|
    V_if_ge (tat ok_X9_next_0 (i := 27) (q := 55) rfl rfl) rfl (fun c5 => V_iload_n (tat ok_X9_next_0 (i := 32) (q := 64) rfl rfl) 0 rfl rfl <|
    V_i2l (tat ok_X9_next_0 (i := 33) (q := 65) rfl rfl) <|
    V_ldc2 (tat ok_X9_next_0 (i := 34) (q := 68) rfl rfl) (gw_in kl_X9_127 rfl) <|
    V_ldc2 (tat ok_X9_next_0 (i := 35) (q := 71) rfl rfl) (gw_in kl_X9_129 rfl) <|
    V_cs3 (ct_X9_in (u2 I 33 23 (I 33 22)) L (Int32.toInt64 v4) 97 122 ) mo_X9_in (tat ok_X9_next_0 (i := 36) (q := 74) rfl rfl) ml_X9_97 ⟨(Nat.le_of_ble_eq_true rfl), (Nat.le_of_ble_eq_true rfl)⟩ ⟨(Nat.le_of_ble_eq_true rfl), (Nat.le_of_ble_eq_true rfl)⟩ (Nat.le_of_ble_eq_true rfl) <|
    V_if_eq (tat ok_X9_next_0 (i := 37) (q := 77) rfl rfl) rfl (fun c6 => V_iload_n (tat ok_X9_next_1 (i := 17) (q := 117) rfl rfl) 0 rfl rfl <|
    V_i2l (tat ok_X9_next_1 (i := 18) (q := 118) rfl rfl) <|
    V_ldc2 (tat ok_X9_next_1 (i := 19) (q := 121) rfl rfl) (gw_in kl_X9_131 rfl) <|
    V_ldc2 (tat ok_X9_next_1 (i := 20) (q := 124) rfl rfl) (gw_in kl_X9_133 rfl) <|
    V_cs3 (ct_X9_in (u2 I 33 23 (I 33 22)) L (Int32.toInt64 v4) 48 57 ) mo_X9_in (tat ok_X9_next_1 (i := 21) (q := 127) rfl rfl) ml_X9_97 ⟨(Nat.le_of_ble_eq_true rfl), (Nat.le_of_ble_eq_true rfl)⟩ ⟨(Nat.le_of_ble_eq_true rfl), (Nat.le_of_ble_eq_true rfl)⟩ (Nat.le_of_ble_eq_true rfl) <|
    V_if_eq (tat ok_X9_next_1 (i := 22) (q := 130) rfl rfl) rfl (fun c7 => V_aload_n (tat ok_X9_next_3 (i := 2) (q := 244) rfl rfl) 1 rfl rfl <|
    V_iconst (tat ok_X9_next_3 (i := 3) (q := 245) rfl rfl) ic_3 <|
    V_putI (tat ok_X9_next_3 (i := 4) (q := 248) rfl rfl) fk_X9_124 rfl rfl <|
    V_aload_n (tat ok_X9_next_3 (i := 5) (q := 249) rfl rfl) 1 rfl rfl <|
    V_iload_n (tat ok_X9_next_3 (i := 6) (q := 250) rfl rfl) 0 rfl rfl <|
    V_bipush (tat ok_X9_next_3 (i := 7) (q := 252) rfl rfl) bp_59 <|
    V_icmp_ne (tat ok_X9_next_3 (i := 8) (q := 255) rfl rfl) rfl (fun c8 => V_iconst (tat ok_X9_next_3 (i := 11) (q := 260) rfl rfl) ic_0 <|
    V_pick [1] rfl (V_X9_next_260 rfl hr (jq (P := oP P) kq (Eq.trans (ob e4) (Eq.trans (if_pos c5) (Eq.trans (if_pos c6) (Eq.trans (if_pos c7) (if_neg c8)))))))) (fun c8 => V_iconst (tat ok_X9_next_3 (i := 9) (q := 256) rfl rfl) ic_1 <|
    V_goto (tat ok_X9_next_3 (i := 10) (q := 259) rfl rfl) rfl <|
    V_pick [1] rfl (V_X9_next_260 rfl hr (jq (P := oP P) kq (Eq.trans (ob e4) (Eq.trans (if_pos c5) (Eq.trans (if_pos c6) (Eq.trans (if_pos c7) (if_pos c8))))))))) (fun c7 => V_aload_n (tat ok_X9_next_1 (i := 23) (q := 131) rfl rfl) 1 rfl rfl <|
    V_iconst (tat ok_X9_next_1 (i := 24) (q := 132) rfl rfl) ic_2 <|
    V_putI (tat ok_X9_next_1 (i := 25) (q := 135) rfl rfl) fk_X9_124 rfl rfl <|
    V_aload_n (tat ok_X9_next_1 (i := 26) (q := 136) rfl rfl) 1 rfl rfl <|
    V_iconst (tat ok_X9_next_1 (i := 27) (q := 137) rfl rfl) ic_0 <|
    V_putI (tat ok_X9_next_1 (i := 28) (q := 140) rfl rfl) fk_X9_135 rfl rfl <|
    V_pick [1] rfl (V_X9_next_140  hr (jq (P := oP P) kq (Eq.trans (ob e4) (Eq.trans (if_pos c5) (Eq.trans (if_pos c6) (if_neg c7)))))))) (fun c6 => V_aload_n (tat ok_X9_next_0 (i := 38) (q := 78) rfl rfl) 1 rfl rfl <|
    V_iconst (tat ok_X9_next_0 (i := 39) (q := 79) rfl rfl) ic_1 <|
    V_putI (tat ok_X9_next_1 (i := 0) (q := 82) rfl rfl) fk_X9_124 rfl rfl <|
    V_pick [1] rfl (V_X9_next_82  hr (jq (P := oP P) kq (Eq.trans (ob e4) (Eq.trans (if_pos c5) (if_neg c6))))))) (fun c5 => V_aload_n (tat ok_X9_next_0 (i := 28) (q := 56) rfl rfl) 1 rfl rfl <|
    V_iconst (tat ok_X9_next_0 (i := 29) (q := 57) rfl rfl) ic_0 <|
    V_putI (tat ok_X9_next_0 (i := 30) (q := 60) rfl rfl) fk_X9_124 rfl rfl <|
    V_goto (tat ok_X9_next_0 (i := 31) (q := 63) rfl rfl) rfl <|
    V_pick [1] rfl (V_X9_next_274  hr (jq (P := oP P) kq (Eq.trans (ob e4) (if_neg c5))))))
def F_X9_next_8 (I : WI) : Option WI :=
  (lpp (fun x => (F_X9_next_8_1 x)) 4294967296 I).bind (fun q => (F_X9_next_34 q))
theorem V_X9_next_8  {I : WI} {L : WL}   {P : WI → Prop} {t : Tg} (hr : ∀ v, P v → t = (none, ly0, v, L, R0)) (kk : oP P (F_X9_next_8 I)) : V (zM x_X9_next 2 0 0 t) 8 [(0, .ref 33)] [] ly0 I L R0 0 0 :=
  V_lpp (fun x => (F_X9_next_8_1 x)) (fun x => V (zM x_X9_next 2 0 0 t) 8 [(0, .ref 33)] [] ly0 x L R0 0 0) (fun x => oP P ((F_X9_next_34 x))) (s := I) (fun x e0 => V_X9_next_8_1 (P := Sum.elim (fun x => oP P ((F_X9_next_34 x))) (fun x => V (zM x_X9_next 2 0 0 t) 8 [(0, .ref 33)] [] ly0 x L R0 0 0))  (fun x e => V_X9_next_34  hr e) (fun _ e => e) e0) (oP_bind (f := fun q => _) kk)
def F_X9_next (I : WI) : Option WI :=
  (if (I 33 26) ≤ 0 then (F_X9_next_8 I) else some I)
theorem V_X9_next  {I : WI} {L : WL}   {P : WI → Prop} {t : Tg} (hr : ∀ v, P v → t = (none, ly0, v, L, R0)) : oP P (F_X9_next I) → V (zM x_X9_next 2 0 0 t) 0 [(0, .ref 33)] [] ly0 I L R0 0 0 :=
  fun _ =>
  have kq : (oP P (F_X9_next I)) ∧ True := ⟨by assumption, trivial⟩
  V_aload_n (tat ok_X9_next_0 (i := 0) (q := 1) rfl rfl) 0 rfl rfl <|
    V_getI (tat ok_X9_next_0 (i := 1) (q := 4) rfl rfl) fk_X9_101 rfl <|
    V_if_le (tat ok_X9_next_0 (i := 2) (q := 7) rfl rfl) rfl (fun c1 => V_X9_next_8  hr (jq (P := oP P) kq (if_pos c1))) (fun c1 => V_vret (tat ok_X9_next_0 (i := 3) (q := 8) rfl rfl) rfl (hr I (jq (P := oP P) kq (if_neg c1))) ⟨(Nat.le_of_ble_eq_true rfl), (Nat.le_of_ble_eq_true rfl)⟩)
theorem ct_X9_next  (I : WI) (L : WL)  {v : WI} (h : (F_X9_next I) = some v) : Ct x_X9_next 2 [.ref 33] ly0 I L R0 0 0 (none, ly0, v, L, R0) :=
  Ct_of_V mo_X9_next.1 (Nat.le_of_ble_eq_true rfl) (V_X9_next (P := fun x => x = v)  (fun _ e => by rw [e]) (by rw [h]; exact rfl))
def F_X9_readRows_148_2 (I : WI) (L : WL) (a2 : Int32) (a3 : Int32) (s0 : Int64) (s1 : Int64) : Option WL :=
  some (u2 L 33 30 (s1 ||| s0))
theorem V_X9_readRows_148_2  {I : WI} {L : WL} {a2 : Int32} {a3 : Int32} {s0 : Int64} {s1 : Int64} {P : WL → Prop} {t : Tg} (hk : ∀ x : WL, P x → V (zM x_X9_readRows 3 0 0 t) 111 [(0, .ref 33), (2, .int a2), (3, .int (a3 + 1))] [] ly0 I x R0 0 0) : oP P (F_X9_readRows_148_2 I L a2 a3 s0 s1) → V (zM x_X9_readRows 3 0 0 t) 148 [(0, .ref 33), (2, .int a2), (3, .int a3)] [.long s0, .long s1, .ref 33] ly0 I L R0 0 0 :=
  fun _ =>
  have kq : (oP P (F_X9_readRows_148_2 I L a2 a3 s0 s1)) ∧ True := ⟨by assumption, trivial⟩
  V_lor (tat ok_X9_readRows_2 (i := 1) (q := 149) rfl rfl) <|
    V_putL (tat ok_X9_readRows_2 (i := 2) (q := 152) rfl rfl) fk_X9_148 rfl rfl <|
    V_iinc (v := (a3 + 1)) (lv' := [(3, .int (a3 + 1)), (0, .ref 33), (2, .int a2)]) (tat ok_X9_readRows_2 (i := 3) (q := 155) rfl rfl) 2 rfl (ia ic_1) (Nat.le_of_ble_eq_true rfl) rfl <|
    V_goto (tat ok_X9_readRows_2 (i := 4) (q := 158) rfl rfl) rfl <|
    V_pick [1, 2, 0] rfl (hk (u2 L 33 30 (s1 ||| s0)) (jq (P := oP P) kq rfl))
def F_X9_readRows_116_2 (I : WI) (L : WL) (a2 : Int32) (a3 : Int32) : Option WL :=
  (Option.bind (F_X9_look I ((I 33 23) + a3)) (fun v7 => (if v7 = 100 then (F_X9_readRows_148_2 I L a2 a3 (F_X9_bitOf (I 33 28) a3) (L 33 30)) else (F_X9_readRows_148_2 I L a2 a3 0 (L 33 30)))))
theorem V_X9_readRows_116_2  {I : WI} {L : WL} {a2 : Int32} {a3 : Int32}  {P : WL → Prop} {t : Tg} (hk : ∀ x : WL, P x → V (zM x_X9_readRows 3 0 0 t) 111 [(0, .ref 33), (2, .int a2), (3, .int (a3 + 1))] [] ly0 I x R0 0 0) : oP P (F_X9_readRows_116_2 I L a2 a3) → V (zM x_X9_readRows 3 0 0 t) 116 [(0, .ref 33), (2, .int a2), (3, .int a3)] [] ly0 I L R0 0 0 :=
  fun _ =>
  have kq : (oP P (F_X9_readRows_116_2 I L a2 a3)) ∧ True := ⟨by assumption, trivial⟩
  V_aload_n (tat ok_X9_readRows_1 (i := 24) (q := 117) rfl rfl) 0 rfl rfl <|
    V_dup (tat ok_X9_readRows_1 (i := 25) (q := 118) rfl rfl) rfl <|
    V_getL (tat ok_X9_readRows_1 (i := 26) (q := 121) rfl rfl) fk_X9_148 rfl <|
    V_aload_n (tat ok_X9_readRows_1 (i := 27) (q := 122) rfl rfl) 0 rfl rfl <|
    V_aload_n (tat ok_X9_readRows_1 (i := 28) (q := 123) rfl rfl) 0 rfl rfl <|
    V_getI (tat ok_X9_readRows_1 (i := 29) (q := 126) rfl rfl) fk_X9_104 rfl <|
    V_iload_n (tat ok_X9_readRows_1 (i := 30) (q := 127) rfl rfl) 2 rfl rfl <|
    V_iadd (tat ok_X9_readRows_1 (i := 31) (q := 128) rfl rfl) <|
    oP_case (jq (P := oP P) kq rfl) (fun v7 e7 _ => V_cv1 (ct_X9_look I L ((I 33 23) + a3)  e7) mo_X9_look (tat ok_X9_readRows_1 (i := 32) (q := 131) rfl rfl) ml_X9_113 rfl ⟨by decide, _, rfl, rfl⟩ ⟨(Nat.le_of_ble_eq_true rfl), (Nat.le_of_ble_eq_true rfl)⟩ ⟨(Nat.le_of_ble_eq_true rfl), (Nat.le_of_ble_eq_true rfl)⟩ (Nat.le_of_ble_eq_true rfl) <|
    V_bipush (tat ok_X9_readRows_1 (i := 33) (q := 133) rfl rfl) bp_100 <|
    V_icmp_ne (tat ok_X9_readRows_1 (i := 34) (q := 136) rfl rfl) rfl (fun c8 => V_lconst (v := 0) (tat ok_X9_readRows_2 (i := 0) (q := 148) rfl rfl) rfl <|
    V_X9_readRows_148_2  hk (jq (P := oP P) kq (Eq.trans (ob e7) (if_neg c8)))) (fun c8 => V_aload_n (tat ok_X9_readRows_1 (i := 35) (q := 137) rfl rfl) 0 rfl rfl <|
    V_getI (tat ok_X9_readRows_1 (i := 36) (q := 140) rfl rfl) fk_X9_142 rfl <|
    V_iload_n (tat ok_X9_readRows_1 (i := 37) (q := 141) rfl rfl) 2 rfl rfl <|
    V_cs2 (ct_X9_bitOf I L (I 33 28) a3 ) mo_X9_bitOf (tat ok_X9_readRows_1 (i := 38) (q := 144) rfl rfl) ml_X9_155 ⟨(Nat.le_of_ble_eq_true rfl), (Nat.le_of_ble_eq_true rfl)⟩ ⟨(Nat.le_of_ble_eq_true rfl), (Nat.le_of_ble_eq_true rfl)⟩ (Nat.le_of_ble_eq_true rfl) <|
    V_goto (tat ok_X9_readRows_1 (i := 39) (q := 147) rfl rfl) rfl <|
    V_X9_readRows_148_2  hk (jq (P := oP P) kq (Eq.trans (ob e7) (if_pos c8)))))
def F_X9_readRows_185_1 (I : WI) (L : WL)  (s0 : Int32) : Option ((WI × WL) ⊕ (Int32 × WI × WL)) :=
  some (.inr (s0, I, L))
theorem V_X9_readRows_185_1  {I : WI} {L : WL}  {s0 : Int32} {P : ((WI × WL) ⊕ (Int32 × WI × WL)) → Prop} {t : Tg} (hs0 : bz s0 = s0) (he : ∀ x : (WI × WL), P (.inl x) → V (zM x_X9_readRows 3 0 0 t) 189 [(0, .ref 33)] [] ly0 (p1 x) (p2 x) R0 0 0) (hk : ∀ x : (Int32 × WI × WL), P (.inr x) → V (zM x_X9_readRows 3 0 0 t) 17 [(0, .ref 33), (1, .int (p1 x))] [] ly0 (p1 (p2 x)) (p2 (p2 x)) R0 0 0) : oP P (F_X9_readRows_185_1 I L s0) → V (zM x_X9_readRows 3 0 0 t) 185 [(0, .ref 33)] [.int s0] ly0 I L R0 0 0 :=
  fun _ =>
  have kq : (oP P (F_X9_readRows_185_1 I L s0)) ∧ True := ⟨by assumption, trivial⟩
  V_istore_n (lv' := [(1, .int s0), (0, .ref 33)]) (tat ok_X9_readRows_2 (i := 20) (q := 186) rfl rfl) rfl (Nat.le_of_ble_eq_true rfl) rfl <|
    V_goto (tat ok_X9_readRows_2 (i := 21) (q := 189) rfl rfl) rfl <|
    V_pick [1, 0] rfl (hk (s0, I, L) (jq (P := oP P) kq rfl))
def F_X9_readRows_168_1 (I : WI) (L : WL) : Option ((WI × WL) ⊕ (Int32 × WI × WL)) :=
  (Option.bind (F_X9_next I) (fun v9 => (if (v9 33 24) = 1 then (F_X9_readRows_185_1 v9 L 1) else (F_X9_readRows_185_1 v9 L 0))))
theorem V_X9_readRows_168_1  {I : WI} {L : WL}   {P : ((WI × WL) ⊕ (Int32 × WI × WL)) → Prop} {t : Tg} (he : ∀ x : (WI × WL), P (.inl x) → V (zM x_X9_readRows 3 0 0 t) 189 [(0, .ref 33)] [] ly0 (p1 x) (p2 x) R0 0 0) (hk : ∀ x : (Int32 × WI × WL), P (.inr x) → V (zM x_X9_readRows 3 0 0 t) 17 [(0, .ref 33), (1, .int (p1 x))] [] ly0 (p1 (p2 x)) (p2 (p2 x)) R0 0 0) : oP P (F_X9_readRows_168_1 I L) → V (zM x_X9_readRows 3 0 0 t) 168 [(0, .ref 33)] [] ly0 I L R0 0 0 :=
  fun _ =>
  have kq : (oP P (F_X9_readRows_168_1 I L)) ∧ True := ⟨by assumption, trivial⟩
  V_aload_n (tat ok_X9_readRows_2 (i := 11) (q := 169) rfl rfl) 0 rfl rfl <|
    oP_case (jq (P := oP P) kq rfl) (fun v9 e9 _ => V_cv0v (ct_X9_next I L   e9) mo_X9_next (tat ok_X9_readRows_2 (i := 12) (q := 172) rfl rfl) ml_X9_159 rfl ⟨by decide, _, rfl, rfl⟩ ⟨(Nat.le_of_ble_eq_true rfl), (Nat.le_of_ble_eq_true rfl)⟩ ⟨(Nat.le_of_ble_eq_true rfl), (Nat.le_of_ble_eq_true rfl)⟩ (Nat.le_of_ble_eq_true rfl) <|
    V_aload_n (tat ok_X9_readRows_2 (i := 13) (q := 173) rfl rfl) 0 rfl rfl <|
    V_getI (tat ok_X9_readRows_2 (i := 14) (q := 176) rfl rfl) fk_X9_124 rfl <|
    V_iconst (tat ok_X9_readRows_2 (i := 15) (q := 177) rfl rfl) ic_1 <|
    V_icmp_ne (tat ok_X9_readRows_2 (i := 16) (q := 180) rfl rfl) rfl (fun c10 => V_iconst (tat ok_X9_readRows_2 (i := 19) (q := 185) rfl rfl) ic_0 <|
    V_X9_readRows_185_1 rfl he hk (jq (P := oP P) kq (Eq.trans (ob e9) (if_neg c10)))) (fun c10 => V_iconst (tat ok_X9_readRows_2 (i := 17) (q := 181) rfl rfl) ic_1 <|
    V_goto (tat ok_X9_readRows_2 (i := 18) (q := 184) rfl rfl) rfl <|
    V_X9_readRows_185_1 rfl he hk (jq (P := oP P) kq (Eq.trans (ob e9) (if_pos c10)))))
def F_X9_readRows_158_1 (I : WI) (L : WL) : Option ((WI × WL) ⊕ (Int32 × WI × WL)) :=
  (F_X9_readRows_168_1 (u2 I 33 28 ((I 33 28) + 1)) L)
theorem V_X9_readRows_158_1  {I : WI} {L : WL}   {P : ((WI × WL) ⊕ (Int32 × WI × WL)) → Prop} {t : Tg} (he : ∀ x : (WI × WL), P (.inl x) → V (zM x_X9_readRows 3 0 0 t) 189 [(0, .ref 33)] [] ly0 (p1 x) (p2 x) R0 0 0) (hk : ∀ x : (Int32 × WI × WL), P (.inr x) → V (zM x_X9_readRows 3 0 0 t) 17 [(0, .ref 33), (1, .int (p1 x))] [] ly0 (p1 (p2 x)) (p2 (p2 x)) R0 0 0) : oP P (F_X9_readRows_158_1 I L) → V (zM x_X9_readRows 3 0 0 t) 158 [(0, .ref 33)] [] ly0 I L R0 0 0 :=
  fun _ =>
  have kq : (oP P (F_X9_readRows_158_1 I L)) ∧ True := ⟨by assumption, trivial⟩
  V_aload_n (tat ok_X9_readRows_2 (i := 5) (q := 159) rfl rfl) 0 rfl rfl <|
    V_dup (tat ok_X9_readRows_2 (i := 6) (q := 160) rfl rfl) rfl <|
    V_getI (tat ok_X9_readRows_2 (i := 7) (q := 163) rfl rfl) fk_X9_142 rfl <|
    V_iconst (tat ok_X9_readRows_2 (i := 8) (q := 164) rfl rfl) ic_1 <|
    V_iadd (tat ok_X9_readRows_2 (i := 9) (q := 165) rfl rfl) <|
    V_putI (tat ok_X9_readRows_2 (i := 10) (q := 168) rfl rfl) fk_X9_142 rfl rfl <|
    V_X9_readRows_168_1  he hk (jq (P := oP P) kq rfl)
def F_X9_readRows_111_1 (I : WI) (L : WL)  (a2 : Int32) (a3 : Int32) : Option ((WI × WL) ⊕ (Int32 × WI × WL)) :=
  (frp0 (fun i x => (F_X9_readRows_116_2 I x a2 i)) a2 (fu a3 a2) a3 L).bind (fun q => (F_X9_readRows_158_1 I (p2 q)))
theorem V_X9_readRows_111_1  {I : WI} {L : WL}  {a2 : Int32} {a3 : Int32} {P : ((WI × WL) ⊕ (Int32 × WI × WL)) → Prop} {t : Tg} (hb3 : bz a3 = a3) (he : ∀ x : (WI × WL), P (.inl x) → V (zM x_X9_readRows 3 0 0 t) 189 [(0, .ref 33)] [] ly0 (p1 x) (p2 x) R0 0 0) (hk : ∀ x : (Int32 × WI × WL), P (.inr x) → V (zM x_X9_readRows 3 0 0 t) 17 [(0, .ref 33), (1, .int (p1 x))] [] ly0 (p1 (p2 x)) (p2 (p2 x)) R0 0 0) (kk : oP P (F_X9_readRows_111_1 I L a2 a3)) : V (zM x_X9_readRows 3 0 0 t) 111 [(0, .ref 33), (2, .int a2), (3, .int a3)] [] ly0 I L R0 0 0 :=
  V_frp0 (fun i x => (F_X9_readRows_116_2 I x a2 i)) a2 (fun i x => V (zM x_X9_readRows 3 0 0 t) 111 [(0, .ref 33), (2, .int a2), (3, .int i)] [] ly0 I x R0 0 0) (fun i x => oP P ((F_X9_readRows_158_1 I x))) (c := a3) (s := L) (fun i x kx kb => V_iload_n (tat ok_X9_readRows_1 (i := 21) (q := 112) rfl rfl) 2 rfl rfl <|
    V_iload_n (tat ok_X9_readRows_1 (i := 22) (q := 113) rfl rfl) 1 rfl rfl <|
    V_icmp_ge (tat ok_X9_readRows_1 (i := 23) (q := 116) rfl rfl) rfl (fun c0 => V_pick [0] rfl (V_X9_readRows_158_1  he hk (kx c0))) (fun c0 => V_X9_readRows_116_2 (P := (fun x => (fun i x => V (zM x_X9_readRows 3 0 0 t) 111 [(0, .ref 33), (2, .int a2), (3, .int i)] [] ly0 I x R0 0 0) (i + 1) x))  (fun _ e => e) (kb c0))) (oP_bind (f := fun q => _) kk)
def F_X9_readRows_93_1 (I : WI) (L : WL)  (a2 : Int32) (s0 : Int32) : Option ((WI × WL) ⊕ (Int32 × WI × WL)) :=
  (if ((F_X9_needs I s0 3) 33 26) = 0 then (F_X9_readRows_111_1 (u2 (F_X9_needs I s0 3) 33 29 a2) L a2 0) else (F_X9_readRows_168_1 (F_X9_needs I s0 3) L))
theorem V_X9_readRows_93_1  {I : WI} {L : WL}  {a2 : Int32} {s0 : Int32} {P : ((WI × WL) ⊕ (Int32 × WI × WL)) → Prop} {t : Tg} (hs0 : bz s0 = s0) (he : ∀ x : (WI × WL), P (.inl x) → V (zM x_X9_readRows 3 0 0 t) 189 [(0, .ref 33)] [] ly0 (p1 x) (p2 x) R0 0 0) (hk : ∀ x : (Int32 × WI × WL), P (.inr x) → V (zM x_X9_readRows 3 0 0 t) 17 [(0, .ref 33), (1, .int (p1 x))] [] ly0 (p1 (p2 x)) (p2 (p2 x)) R0 0 0) : oP P (F_X9_readRows_93_1 I L a2 s0) → V (zM x_X9_readRows 3 0 0 t) 93 [(0, .ref 33), (2, .int a2)] [.int s0, .ref 33] ly0 I L R0 0 0 :=
  fun _ =>
  have kq : (oP P (F_X9_readRows_93_1 I L a2 s0)) ∧ True := ⟨by assumption, trivial⟩
  V_iconst (tat ok_X9_readRows_1 (i := 11) (q := 94) rfl rfl) ic_3 <|
    V_cv2v (ct_X9_needs I L s0 3 ) mo_X9_needs (tat ok_X9_readRows_1 (i := 12) (q := 97) rfl rfl) ml_X9_138 rfl ⟨by decide, _, rfl, rfl⟩ ⟨(Nat.le_of_ble_eq_true rfl), (Nat.le_of_ble_eq_true rfl)⟩ ⟨(Nat.le_of_ble_eq_true rfl), (Nat.le_of_ble_eq_true rfl)⟩ (Nat.le_of_ble_eq_true rfl) <|
    V_aload_n (tat ok_X9_readRows_1 (i := 13) (q := 98) rfl rfl) 0 rfl rfl <|
    V_getI (tat ok_X9_readRows_1 (i := 14) (q := 101) rfl rfl) fk_X9_101 rfl <|
    V_if_ne (tat ok_X9_readRows_1 (i := 15) (q := 104) rfl rfl) rfl (fun c6 => V_pick [0] rfl (V_X9_readRows_168_1  he hk (jq (P := oP P) kq (if_neg c6)))) (fun c6 => V_aload_n (tat ok_X9_readRows_1 (i := 16) (q := 105) rfl rfl) 0 rfl rfl <|
    V_iload_n (tat ok_X9_readRows_1 (i := 17) (q := 106) rfl rfl) 1 rfl rfl <|
    V_putI (tat ok_X9_readRows_1 (i := 18) (q := 109) rfl rfl) fk_X9_145 rfl rfl <|
    V_iconst (tat ok_X9_readRows_1 (i := 19) (q := 110) rfl rfl) ic_0 <|
    V_istore_n (lv' := [(3, .int 0), (0, .ref 33), (2, .int a2)]) (tat ok_X9_readRows_1 (i := 20) (q := 111) rfl rfl) rfl (Nat.le_of_ble_eq_true rfl) rfl <|
    V_pick [1, 2, 0] rfl (V_X9_readRows_111_1 rfl he hk (jq (P := oP P) kq (if_pos c6))))
def F_X9_readRows_92_1 (I : WI) (L : WL)  (a2 : Int32) : Option ((WI × WL) ⊕ (Int32 × WI × WL)) :=
  (F_X9_readRows_93_1 I L a2 0)
theorem V_X9_readRows_92_1  {I : WI} {L : WL}  {a2 : Int32} {P : ((WI × WL) ⊕ (Int32 × WI × WL)) → Prop} {t : Tg} (he : ∀ x : (WI × WL), P (.inl x) → V (zM x_X9_readRows 3 0 0 t) 189 [(0, .ref 33)] [] ly0 (p1 x) (p2 x) R0 0 0) (hk : ∀ x : (Int32 × WI × WL), P (.inr x) → V (zM x_X9_readRows 3 0 0 t) 17 [(0, .ref 33), (1, .int (p1 x))] [] ly0 (p1 (p2 x)) (p2 (p2 x)) R0 0 0) : oP P (F_X9_readRows_92_1 I L a2) → V (zM x_X9_readRows 3 0 0 t) 92 [(0, .ref 33), (2, .int a2)] [.ref 33] ly0 I L R0 0 0 :=
  fun _ =>
  have kq : (oP P (F_X9_readRows_92_1 I L a2)) ∧ True := ⟨by assumption, trivial⟩
  V_iconst (tat ok_X9_readRows_1 (i := 10) (q := 93) rfl rfl) ic_0 <|
    V_X9_readRows_93_1 rfl he hk (jq (P := oP P) kq rfl)
def F_X9_readRows_88_1 (I : WI) (L : WL)  (a2 : Int32) : Option ((WI × WL) ⊕ (Int32 × WI × WL)) :=
  (F_X9_readRows_93_1 I L a2 1)
theorem V_X9_readRows_88_1  {I : WI} {L : WL}  {a2 : Int32} {P : ((WI × WL) ⊕ (Int32 × WI × WL)) → Prop} {t : Tg} (he : ∀ x : (WI × WL), P (.inl x) → V (zM x_X9_readRows 3 0 0 t) 189 [(0, .ref 33)] [] ly0 (p1 x) (p2 x) R0 0 0) (hk : ∀ x : (Int32 × WI × WL), P (.inr x) → V (zM x_X9_readRows 3 0 0 t) 17 [(0, .ref 33), (1, .int (p1 x))] [] ly0 (p1 (p2 x)) (p2 (p2 x)) R0 0 0) : oP P (F_X9_readRows_88_1 I L a2) → V (zM x_X9_readRows 3 0 0 t) 88 [(0, .ref 33), (2, .int a2)] [.ref 33] ly0 I L R0 0 0 :=
  fun _ =>
  have kq : (oP P (F_X9_readRows_88_1 I L a2)) ∧ True := ⟨by assumption, trivial⟩
  V_iconst (tat ok_X9_readRows_1 (i := 8) (q := 89) rfl rfl) ic_1 <|
    V_goto (tat ok_X9_readRows_1 (i := 9) (q := 92) rfl rfl) rfl <|
    V_X9_readRows_93_1 rfl he hk (jq (P := oP P) kq rfl)
def F_X9_readRows_52_1 (I : WI) (L : WL)  (s0 : Int32) : Option ((WI × WL) ⊕ (Int32 × WI × WL)) :=
  (if 8 < (((F_X9_needs I s0 5) 33 22) - ((F_X9_needs I s0 5) 33 23)) then (F_X9_readRows_92_1 (F_X9_needs I s0 5) L (((F_X9_needs I s0 5) 33 22) - ((F_X9_needs I s0 5) 33 23))) else (if ((F_X9_needs I s0 5) 33 28) = 0 then (F_X9_readRows_88_1 (F_X9_needs I s0 5) L (((F_X9_needs I s0 5) 33 22) - ((F_X9_needs I s0 5) 33 23))) else (if (((F_X9_needs I s0 5) 33 22) - ((F_X9_needs I s0 5) 33 23)) = ((F_X9_needs I s0 5) 33 29) then (F_X9_readRows_88_1 (F_X9_needs I s0 5) L (((F_X9_needs I s0 5) 33 22) - ((F_X9_needs I s0 5) 33 23))) else (F_X9_readRows_92_1 (F_X9_needs I s0 5) L (((F_X9_needs I s0 5) 33 22) - ((F_X9_needs I s0 5) 33 23))))))
theorem V_X9_readRows_52_1  {I : WI} {L : WL}  {s0 : Int32} {P : ((WI × WL) ⊕ (Int32 × WI × WL)) → Prop} {t : Tg} (hs0 : bz s0 = s0) (he : ∀ x : (WI × WL), P (.inl x) → V (zM x_X9_readRows 3 0 0 t) 189 [(0, .ref 33)] [] ly0 (p1 x) (p2 x) R0 0 0) (hk : ∀ x : (Int32 × WI × WL), P (.inr x) → V (zM x_X9_readRows 3 0 0 t) 17 [(0, .ref 33), (1, .int (p1 x))] [] ly0 (p1 (p2 x)) (p2 (p2 x)) R0 0 0) : oP P (F_X9_readRows_52_1 I L s0) → V (zM x_X9_readRows 3 0 0 t) 52 [(0, .ref 33)] [.int s0, .ref 33] ly0 I L R0 0 0 :=
  fun _ =>
  have kq : (oP P (F_X9_readRows_52_1 I L s0)) ∧ True := ⟨by assumption, trivial⟩
  V_iconst (tat ok_X9_readRows_0 (i := 29) (q := 53) rfl rfl) ic_5 <|
    V_cv2v (ct_X9_needs I L s0 5 ) mo_X9_needs (tat ok_X9_readRows_0 (i := 30) (q := 56) rfl rfl) ml_X9_138 rfl ⟨by decide, _, rfl, rfl⟩ ⟨(Nat.le_of_ble_eq_true rfl), (Nat.le_of_ble_eq_true rfl)⟩ ⟨(Nat.le_of_ble_eq_true rfl), (Nat.le_of_ble_eq_true rfl)⟩ (Nat.le_of_ble_eq_true rfl) <|
    V_aload_n (tat ok_X9_readRows_0 (i := 31) (q := 57) rfl rfl) 0 rfl rfl <|
    V_getI (tat ok_X9_readRows_0 (i := 32) (q := 60) rfl rfl) fk_X9_110 rfl <|
    V_aload_n (tat ok_X9_readRows_0 (i := 33) (q := 61) rfl rfl) 0 rfl rfl <|
    V_getI (tat ok_X9_readRows_0 (i := 34) (q := 64) rfl rfl) fk_X9_104 rfl <|
    V_isub (tat ok_X9_readRows_0 (i := 35) (q := 65) rfl rfl) <|
    V_istore_n (lv' := [(2, .int (((F_X9_needs I s0 5) 33 22) - ((F_X9_needs I s0 5) 33 23))), (0, .ref 33)]) (tat ok_X9_readRows_0 (i := 36) (q := 66) rfl rfl) rfl (Nat.le_of_ble_eq_true rfl) rfl <|
    V_aload_n (tat ok_X9_readRows_0 (i := 37) (q := 67) rfl rfl) 1 rfl rfl <|
    V_iload_n (tat ok_X9_readRows_0 (i := 38) (q := 68) rfl rfl) 0 rfl rfl <|
    V_bipush (tat ok_X9_readRows_0 (i := 39) (q := 70) rfl rfl) bp_8 <|
    V_icmp_gt (tat ok_X9_readRows_1 (i := 0) (q := 73) rfl rfl) rfl (fun c5 => V_pick [1, 0] rfl (V_X9_readRows_92_1  he hk (jq (P := oP P) kq (if_pos c5)))) (fun c5 => V_aload_n (tat ok_X9_readRows_1 (i := 1) (q := 74) rfl rfl) 1 rfl rfl <|
    V_getI (tat ok_X9_readRows_1 (i := 2) (q := 77) rfl rfl) fk_X9_142 rfl <|
    V_if_eq (tat ok_X9_readRows_1 (i := 3) (q := 80) rfl rfl) rfl (fun c11 => V_pick [1, 0] rfl (V_X9_readRows_88_1  he hk (jq (P := oP P) kq (Eq.trans (if_neg c5) (if_pos c11))))) (fun c11 => V_iload_n (tat ok_X9_readRows_1 (i := 4) (q := 81) rfl rfl) 0 rfl rfl <|
    V_aload_n (tat ok_X9_readRows_1 (i := 5) (q := 82) rfl rfl) 1 rfl rfl <|
    V_getI (tat ok_X9_readRows_1 (i := 6) (q := 85) rfl rfl) fk_X9_145 rfl <|
    V_icmp_ne (tat ok_X9_readRows_1 (i := 7) (q := 88) rfl rfl) rfl (fun c12 => V_pick [1, 0] rfl (V_X9_readRows_92_1  he hk (jq (P := oP P) kq (Eq.trans (if_neg c5) (Eq.trans (if_neg c11) (if_neg c12)))))) (fun c12 => V_pick [1, 0] rfl (V_X9_readRows_88_1  he hk (jq (P := oP P) kq (Eq.trans (if_neg c5) (Eq.trans (if_neg c11) (if_pos c12))))))))
def F_X9_readRows_17_1 (I : WI) (L : WL)  (a1 : Int32) : Option ((WI × WL) ⊕ (Int32 × WI × WL)) :=
  (if (I 33 26) = 0 then (if a1 = 0 then some (.inl (I, L)) else (Option.bind (F_X9_isRowName I) (fun v3 => (if 8 ≤ ((F_X9_needs I v3 2) 33 28) then (F_X9_readRows_52_1 (F_X9_needs I v3 2) L 0) else (F_X9_readRows_52_1 (F_X9_needs I v3 2) L 1))))) else some (.inl (I, L)))
theorem V_X9_readRows_17_1  {I : WI} {L : WL}  {a1 : Int32} {P : ((WI × WL) ⊕ (Int32 × WI × WL)) → Prop} {t : Tg} (he : ∀ x : (WI × WL), P (.inl x) → V (zM x_X9_readRows 3 0 0 t) 189 [(0, .ref 33)] [] ly0 (p1 x) (p2 x) R0 0 0) (hk : ∀ x : (Int32 × WI × WL), P (.inr x) → V (zM x_X9_readRows 3 0 0 t) 17 [(0, .ref 33), (1, .int (p1 x))] [] ly0 (p1 (p2 x)) (p2 (p2 x)) R0 0 0) : oP P (F_X9_readRows_17_1 I L a1) → V (zM x_X9_readRows 3 0 0 t) 17 [(0, .ref 33), (1, .int a1)] [] ly0 I L R0 0 0 :=
  fun _ =>
  have kq : (oP P (F_X9_readRows_17_1 I L a1)) ∧ True := ⟨by assumption, trivial⟩
  V_aload_n (tat ok_X9_readRows_0 (i := 11) (q := 18) rfl rfl) 0 rfl rfl <|
    V_getI (tat ok_X9_readRows_0 (i := 12) (q := 21) rfl rfl) fk_X9_101 rfl <|
    V_if_ne (tat ok_X9_readRows_0 (i := 13) (q := 24) rfl rfl) rfl (fun c1 => V_pick [0] rfl (he (I, L) (jq (P := oP P) kq (if_neg c1)))) (fun c1 => V_iload_n (tat ok_X9_readRows_0 (i := 14) (q := 25) rfl rfl) 1 rfl rfl <|
    V_if_eq (tat ok_X9_readRows_0 (i := 15) (q := 28) rfl rfl) rfl (fun c2 => V_pick [0] rfl (he (I, L) (jq (P := oP P) kq (Eq.trans (if_pos c1) (if_pos c2))))) (fun c2 => V_aload_n (tat ok_X9_readRows_0 (i := 16) (q := 29) rfl rfl) 0 rfl rfl <|
    V_aload_n (tat ok_X9_readRows_0 (i := 17) (q := 30) rfl rfl) 0 rfl rfl <|
    oP_case (jq (P := oP P) kq (Eq.trans (if_pos c1) (if_neg c2))) (fun v3 e3 _ => V_cv0 (ct_X9_isRowName I L   e3) mo_X9_isRowName (tat ok_X9_readRows_0 (i := 18) (q := 33) rfl rfl) ml_X9_151 rfl ⟨by decide, _, rfl, rfl⟩ ⟨(Nat.le_of_ble_eq_true rfl), (Nat.le_of_ble_eq_true rfl)⟩ ⟨(Nat.le_of_ble_eq_true rfl), (Nat.le_of_ble_eq_true rfl)⟩ (Nat.le_of_ble_eq_true rfl) <|
    V_iconst (tat ok_X9_readRows_0 (i := 19) (q := 34) rfl rfl) ic_2 <|
    V_cv2v (ct_X9_needs I L v3 2 ) mo_X9_needs (tat ok_X9_readRows_0 (i := 20) (q := 37) rfl rfl) ml_X9_138 rfl ⟨by decide, _, rfl, rfl⟩ ⟨(Nat.le_of_ble_eq_true rfl), (Nat.le_of_ble_eq_true rfl)⟩ ⟨(Nat.le_of_ble_eq_true rfl), (Nat.le_of_ble_eq_true rfl)⟩ (Nat.le_of_ble_eq_true rfl) <|
    V_aload_n (tat ok_X9_readRows_0 (i := 21) (q := 38) rfl rfl) 0 rfl rfl <|
    V_aload_n (tat ok_X9_readRows_0 (i := 22) (q := 39) rfl rfl) 0 rfl rfl <|
    V_getI (tat ok_X9_readRows_0 (i := 23) (q := 42) rfl rfl) fk_X9_142 rfl <|
    V_bipush (tat ok_X9_readRows_0 (i := 24) (q := 44) rfl rfl) bp_8 <|
    V_icmp_ge (tat ok_X9_readRows_0 (i := 25) (q := 47) rfl rfl) rfl (fun c4 => V_iconst (tat ok_X9_readRows_0 (i := 28) (q := 52) rfl rfl) ic_0 <|
    V_pick [0] rfl (V_X9_readRows_52_1 rfl he hk (jq (P := oP P) kq (Eq.trans (if_pos c1) (Eq.trans (if_neg c2) (Eq.trans (ob e3) (if_pos c4))))))) (fun c4 => V_iconst (tat ok_X9_readRows_0 (i := 26) (q := 48) rfl rfl) ic_1 <|
    V_goto (tat ok_X9_readRows_0 (i := 27) (q := 51) rfl rfl) rfl <|
    V_pick [0] rfl (V_X9_readRows_52_1 rfl he hk (jq (P := oP P) kq (Eq.trans (if_pos c1) (Eq.trans (if_neg c2) (Eq.trans (ob e3) (if_neg c4))))))))))
def F_X9_readRows_189 (I : WI) (L : WL) : Option (WI × WL) :=
  some (I, L)
theorem V_X9_readRows_189  {I : WI} {L : WL}   {P : (WI × WL) → Prop} {t : Tg} (hr : ∀ v, P v → t = (none, ly0, (p1 v), (p2 v), R0)) : oP P (F_X9_readRows_189 I L) → V (zM x_X9_readRows 3 0 0 t) 189 [(0, .ref 33)] [] ly0 I L R0 0 0 :=
  fun _ =>
  have kq : (oP P (F_X9_readRows_189 I L)) ∧ True := ⟨by assumption, trivial⟩
  V_vret (tat ok_X9_readRows_2 (i := 22) (q := 190) rfl rfl) rfl (hr (I, L) (jq (P := oP P) kq rfl)) ⟨(Nat.le_of_ble_eq_true rfl), (Nat.le_of_ble_eq_true rfl)⟩
def F_X9_readRows_17 (I : WI) (L : WL)  (a1 : Int32) : Option (WI × WL) :=
  (lpp (fun x => (F_X9_readRows_17_1 (p1 (p2 x)) (p2 (p2 x)) (p1 x))) 4294967296 (a1, I, L)).bind (fun q => (F_X9_readRows_189 (p1 q) (p2 q)))
theorem V_X9_readRows_17  {I : WI} {L : WL}  {a1 : Int32} {P : (WI × WL) → Prop} {t : Tg} (hb1 : bz a1 = a1) (hr : ∀ v, P v → t = (none, ly0, (p1 v), (p2 v), R0)) (kk : oP P (F_X9_readRows_17 I L a1)) : V (zM x_X9_readRows 3 0 0 t) 17 [(0, .ref 33), (1, .int a1)] [] ly0 I L R0 0 0 :=
  V_lpp (fun x => (F_X9_readRows_17_1 (p1 (p2 x)) (p2 (p2 x)) (p1 x))) (fun x => V (zM x_X9_readRows 3 0 0 t) 17 [(0, .ref 33), (1, .int (p1 x))] [] ly0 (p1 (p2 x)) (p2 (p2 x)) R0 0 0) (fun x => oP P ((F_X9_readRows_189 (p1 x) (p2 x)))) (s := (a1, I, L)) (fun x e0 => V_X9_readRows_17_1 (P := Sum.elim (fun x => oP P ((F_X9_readRows_189 (p1 x) (p2 x)))) (fun x => V (zM x_X9_readRows 3 0 0 t) 17 [(0, .ref 33), (1, .int (p1 x))] [] ly0 (p1 (p2 x)) (p2 (p2 x)) R0 0 0))  (fun x e => V_X9_readRows_189  hr e) (fun _ e => e) e0) (oP_bind (f := fun q => _) kk)
def F_X9_readRows (I : WI) (L : WL) : Option (WI × WL) :=
  (F_X9_readRows_17 (u2 (u2 I 33 28 0) 33 29 0) (u2 L 33 30 0) 1)
theorem V_X9_readRows  {I : WI} {L : WL}   {P : (WI × WL) → Prop} {t : Tg} (hr : ∀ v, P v → t = (none, ly0, (p1 v), (p2 v), R0)) : oP P (F_X9_readRows I L) → V (zM x_X9_readRows 3 0 0 t) 0 [(0, .ref 33)] [] ly0 I L R0 0 0 :=
  fun _ =>
  have kq : (oP P (F_X9_readRows I L)) ∧ True := ⟨by assumption, trivial⟩
  V_aload_n (tat ok_X9_readRows_0 (i := 0) (q := 1) rfl rfl) 0 rfl rfl <|
    V_iconst (tat ok_X9_readRows_0 (i := 1) (q := 2) rfl rfl) ic_0 <|
    V_putI (tat ok_X9_readRows_0 (i := 2) (q := 5) rfl rfl) fk_X9_142 rfl rfl <|
    V_aload_n (tat ok_X9_readRows_0 (i := 3) (q := 6) rfl rfl) 0 rfl rfl <|
    V_iconst (tat ok_X9_readRows_0 (i := 4) (q := 7) rfl rfl) ic_0 <|
    V_putI (tat ok_X9_readRows_0 (i := 5) (q := 10) rfl rfl) fk_X9_145 rfl rfl <|
    V_aload_n (tat ok_X9_readRows_0 (i := 6) (q := 11) rfl rfl) 0 rfl rfl <|
    V_lconst (v := 0) (tat ok_X9_readRows_0 (i := 7) (q := 12) rfl rfl) rfl <|
    V_putL (tat ok_X9_readRows_0 (i := 8) (q := 15) rfl rfl) fk_X9_148 rfl rfl <|
    V_iconst (tat ok_X9_readRows_0 (i := 9) (q := 16) rfl rfl) ic_1 <|
    V_istore_n (lv' := [(1, .int 1), (0, .ref 33)]) (tat ok_X9_readRows_0 (i := 10) (q := 17) rfl rfl) rfl (Nat.le_of_ble_eq_true rfl) rfl <|
    V_pick [1, 0] rfl (V_X9_readRows_17 rfl hr (jq (P := oP P) kq rfl))
theorem ct_X9_readRows  (I : WI) (L : WL)  {v : (WI × WL)} (h : (F_X9_readRows I L) = some v) : Ct x_X9_readRows 3 [.ref 33] ly0 I L R0 0 0 (none, ly0, (p1 v), (p2 v), R0) :=
  Ct_of_V mo_X9_readRows.1 (Nat.le_of_ble_eq_true rfl) (V_X9_readRows (P := fun x => x = v)  (fun _ e => by rw [e]) (by rw [h]; exact rfl))
def F_X9_readAct_144 (I : WI) (a1 : Int32) : Option WI :=
  (Option.bind (F_X9_next I) (fun v12 => some v12))
theorem V_X9_readAct_144  {I : WI} {L : WL} {a1 : Int32}  {P : WI → Prop} {t : Tg} (hr : ∀ v, P v → t = (none, ly0, v, L, R0)) : oP P (F_X9_readAct_144 I a1) → V (zM x_X9_readAct 4 0 0 t) 144 [(0, .ref 33), (1, .int a1)] [] ly0 I L R0 0 0 :=
  fun _ =>
  have kq : (oP P (F_X9_readAct_144 I a1)) ∧ True := ⟨by assumption, trivial⟩
  V_aload_n (tat ok_X9_readAct_1 (i := 39) (q := 145) rfl rfl) 0 rfl rfl <|
    oP_case (jq (P := oP P) kq rfl) (fun v12 e12 _ => V_cv0v (ct_X9_next I L   e12) mo_X9_next (tat ok_X9_readAct_2 (i := 0) (q := 148) rfl rfl) ml_X9_159 rfl ⟨by decide, _, rfl, rfl⟩ ⟨(Nat.le_of_ble_eq_true rfl), (Nat.le_of_ble_eq_true rfl)⟩ ⟨(Nat.le_of_ble_eq_true rfl), (Nat.le_of_ble_eq_true rfl)⟩ (Nat.le_of_ble_eq_true rfl) <|
    V_vret (tat ok_X9_readAct_2 (i := 1) (q := 149) rfl rfl) rfl (hr v12 (jq (P := oP P) kq (ob e12))) ⟨(Nat.le_of_ble_eq_true rfl), (Nat.le_of_ble_eq_true rfl)⟩)
def F_X9_readAct_113 (I : WI) (a1 : Int32) (a2 : Int32) : Option WI :=
  (if (I 33 26) = 0 then (if (((4 * (I 33 18)) + 1) + a1) < 0 ∨ 48 ≤ Int32.toNatClampNeg (((4 * (I 33 18)) + 1) + a1) then none else (F_X9_readAct_144 (u2 I 38 (Int32.toNatClampNeg (((4 * (I 33 18)) + 1) + a1)) ((20 * a2) + (I 33 25))) a1)) else (F_X9_readAct_144 I a1))
theorem V_X9_readAct_113  {I : WI} {L : WL} {a1 : Int32} {a2 : Int32} {P : WI → Prop} {t : Tg} (hr : ∀ v, P v → t = (none, ly0, v, L, R0)) : oP P (F_X9_readAct_113 I a1 a2) → V (zM x_X9_readAct 4 0 0 t) 113 [(0, .ref 33), (1, .int a1), (2, .int a2)] [] ly0 I L R0 0 0 :=
  fun _ =>
  have kq : (oP P (F_X9_readAct_113 I a1 a2)) ∧ True := ⟨by assumption, trivial⟩
  V_aload_n (tat ok_X9_readAct_1 (i := 19) (q := 114) rfl rfl) 0 rfl rfl <|
    V_getI (tat ok_X9_readAct_1 (i := 20) (q := 117) rfl rfl) fk_X9_101 rfl <|
    V_if_ne (tat ok_X9_readAct_1 (i := 21) (q := 120) rfl rfl) rfl (fun c10 => V_pick [0, 1] rfl (V_X9_readAct_144  hr (jq (P := oP P) kq (if_neg c10)))) (fun c10 => V_aload_n (tat ok_X9_readAct_1 (i := 22) (q := 121) rfl rfl) 0 rfl rfl <|
    V_getR (tat ok_X9_readAct_1 (i := 23) (q := 124) rfl rfl) fk_X9_23 rfl rfl <|
    V_iconst (tat ok_X9_readAct_1 (i := 24) (q := 125) rfl rfl) ic_4 <|
    V_aload_n (tat ok_X9_readAct_1 (i := 25) (q := 126) rfl rfl) 0 rfl rfl <|
    V_getI (tat ok_X9_readAct_1 (i := 26) (q := 129) rfl rfl) fk_X9_71 rfl <|
    V_imul (tat ok_X9_readAct_1 (i := 27) (q := 130) rfl rfl) <|
    V_iconst (tat ok_X9_readAct_1 (i := 28) (q := 131) rfl rfl) ic_1 <|
    V_iadd (tat ok_X9_readAct_1 (i := 29) (q := 132) rfl rfl) <|
    V_iload_n (tat ok_X9_readAct_1 (i := 30) (q := 133) rfl rfl) 1 rfl rfl <|
    V_iadd (tat ok_X9_readAct_1 (i := 31) (q := 134) rfl rfl) <|
    V_bipush (tat ok_X9_readAct_1 (i := 32) (q := 136) rfl rfl) bp_20 <|
    V_iload_n (tat ok_X9_readAct_1 (i := 33) (q := 137) rfl rfl) 2 rfl rfl <|
    V_imul (tat ok_X9_readAct_1 (i := 34) (q := 138) rfl rfl) <|
    V_aload_n (tat ok_X9_readAct_1 (i := 35) (q := 139) rfl rfl) 0 rfl rfl <|
    V_getI (tat ok_X9_readAct_1 (i := 36) (q := 142) rfl rfl) fk_X9_135 rfl <|
    V_iadd (tat ok_X9_readAct_1 (i := 37) (q := 143) rfl rfl) <|
    (if c11 : (((4 * (I 33 18)) + 1) + a1) < 0 ∨ 48 ≤ Int32.toNatClampNeg (((4 * (I 33 18)) + 1) + a1) then ((jq (P := oP P) kq (Eq.trans (if_pos c10) (if_pos c11)))).elim else V_iast (tat ok_X9_readAct_1 (i := 38) (q := 144) rfl rfl) rfl c11 <|
    V_pick [0, 1] rfl (V_X9_readAct_144  hr (jq (P := oP P) kq (Eq.trans (if_pos c10) (if_neg c11))))))
def F_X9_readAct_106 (I : WI) (a1 : Int32) (a2 : Int32) (s0 : Int64) (s1 : Int64) (s2 : Int64) : Option WI :=
  (F_X9_readAct_113 (F_X9_needs I (F_X9_in s2 s1 s0) 3) a1 a2)
theorem V_X9_readAct_106  {I : WI} {L : WL} {a1 : Int32} {a2 : Int32} {s0 : Int64} {s1 : Int64} {s2 : Int64} {P : WI → Prop} {t : Tg} (hr : ∀ v, P v → t = (none, ly0, v, L, R0)) : oP P (F_X9_readAct_106 I a1 a2 s0 s1 s2) → V (zM x_X9_readAct 4 0 0 t) 106 [(0, .ref 33), (1, .int a1), (2, .int a2)] [.long s0, .long s1, .long s2, .ref 33] ly0 I L R0 0 0 :=
  fun _ =>
  have kq : (oP P (F_X9_readAct_106 I a1 a2 s0 s1 s2)) ∧ True := ⟨by assumption, trivial⟩
  V_cs3 (ct_X9_in I L s2 s1 s0 ) mo_X9_in (tat ok_X9_readAct_1 (i := 16) (q := 109) rfl rfl) ml_X9_97 ⟨(Nat.le_of_ble_eq_true rfl), (Nat.le_of_ble_eq_true rfl)⟩ ⟨(Nat.le_of_ble_eq_true rfl), (Nat.le_of_ble_eq_true rfl)⟩ (Nat.le_of_ble_eq_true rfl) <|
    V_iconst (tat ok_X9_readAct_1 (i := 17) (q := 110) rfl rfl) ic_3 <|
    V_cv2v (ct_X9_needs I L (F_X9_in s2 s1 s0) 3 ) mo_X9_needs (tat ok_X9_readAct_1 (i := 18) (q := 113) rfl rfl) ml_X9_138 rfl ⟨by decide, _, rfl, rfl⟩ ⟨(Nat.le_of_ble_eq_true rfl), (Nat.le_of_ble_eq_true rfl)⟩ ⟨(Nat.le_of_ble_eq_true rfl), (Nat.le_of_ble_eq_true rfl)⟩ (Nat.le_of_ble_eq_true rfl) <|
    V_X9_readAct_113  hr (jq (P := oP P) kq rfl)
def F_X9_readAct_78 (I : WI) (a1 : Int32) (a2 : Int32) : Option WI :=
  (if (I 33 26) = 0 then (if a2 = 2 then (F_X9_readAct_106 I a1 a2 14 0 (Int32.toInt64 (I 33 25))) else (F_X9_readAct_106 I a1 a2 7 0 (Int32.toInt64 (I 33 25)))) else (F_X9_readAct_113 I a1 a2))
theorem V_X9_readAct_78  {I : WI} {L : WL} {a1 : Int32} {a2 : Int32} {P : WI → Prop} {t : Tg} (hr : ∀ v, P v → t = (none, ly0, v, L, R0)) : oP P (F_X9_readAct_78 I a1 a2) → V (zM x_X9_readAct 4 0 0 t) 78 [(0, .ref 33), (1, .int a1), (2, .int a2)] [] ly0 I L R0 0 0 :=
  fun _ =>
  have kq : (oP P (F_X9_readAct_78 I a1 a2)) ∧ True := ⟨by assumption, trivial⟩
  V_aload_n (tat ok_X9_readAct_1 (i := 2) (q := 79) rfl rfl) 0 rfl rfl <|
    V_getI (tat ok_X9_readAct_1 (i := 3) (q := 82) rfl rfl) fk_X9_101 rfl <|
    V_if_ne (tat ok_X9_readAct_1 (i := 4) (q := 85) rfl rfl) rfl (fun c8 => V_X9_readAct_113  hr (jq (P := oP P) kq (if_neg c8))) (fun c8 => V_aload_n (tat ok_X9_readAct_1 (i := 5) (q := 86) rfl rfl) 0 rfl rfl <|
    V_aload_n (tat ok_X9_readAct_1 (i := 6) (q := 87) rfl rfl) 0 rfl rfl <|
    V_getI (tat ok_X9_readAct_1 (i := 7) (q := 90) rfl rfl) fk_X9_135 rfl <|
    V_i2l (tat ok_X9_readAct_1 (i := 8) (q := 91) rfl rfl) <|
    V_lconst (v := 0) (tat ok_X9_readAct_1 (i := 9) (q := 92) rfl rfl) rfl <|
    V_iload_n (tat ok_X9_readAct_1 (i := 10) (q := 93) rfl rfl) 2 rfl rfl <|
    V_iconst (tat ok_X9_readAct_1 (i := 11) (q := 94) rfl rfl) ic_2 <|
    V_icmp_ne (tat ok_X9_readAct_1 (i := 12) (q := 97) rfl rfl) rfl (fun c9 => V_ldc2 (tat ok_X9_readAct_1 (i := 15) (q := 106) rfl rfl) (gw_in kl_X9_168 rfl) <|
    V_X9_readAct_106  hr (jq (P := oP P) kq (Eq.trans (if_pos c8) (if_neg c9)))) (fun c9 => V_ldc2 (tat ok_X9_readAct_1 (i := 13) (q := 100) rfl rfl) (gw_in kl_X9_166 rfl) <|
    V_goto (tat ok_X9_readAct_1 (i := 14) (q := 103) rfl rfl) rfl <|
    V_X9_readAct_106  hr (jq (P := oP P) kq (Eq.trans (if_pos c8) (if_pos c9)))))
def F_X9_readAct_74 (I : WI) (a1 : Int32) (a2 : Int32) (s0 : Int32) : Option WI :=
  (F_X9_readAct_78 (F_X9_needs I s0 2) a1 a2)
theorem V_X9_readAct_74  {I : WI} {L : WL} {a1 : Int32} {a2 : Int32} {s0 : Int32} {P : WI → Prop} {t : Tg} (hs0 : bz s0 = s0) (hr : ∀ v, P v → t = (none, ly0, v, L, R0)) : oP P (F_X9_readAct_74 I a1 a2 s0) → V (zM x_X9_readAct 4 0 0 t) 74 [(0, .ref 33), (1, .int a1), (2, .int a2)] [.int s0, .ref 33] ly0 I L R0 0 0 :=
  fun _ =>
  have kq : (oP P (F_X9_readAct_74 I a1 a2 s0)) ∧ True := ⟨by assumption, trivial⟩
  V_iconst (tat ok_X9_readAct_1 (i := 0) (q := 75) rfl rfl) ic_2 <|
    V_cv2v (ct_X9_needs I L s0 2 ) mo_X9_needs (tat ok_X9_readAct_1 (i := 1) (q := 78) rfl rfl) ml_X9_138 rfl ⟨by decide, _, rfl, rfl⟩ ⟨(Nat.le_of_ble_eq_true rfl), (Nat.le_of_ble_eq_true rfl)⟩ ⟨(Nat.le_of_ble_eq_true rfl), (Nat.le_of_ble_eq_true rfl)⟩ (Nat.le_of_ble_eq_true rfl) <|
    V_X9_readAct_78  hr (jq (P := oP P) kq rfl)
def F_X9_readAct_45 (I : WI) (a1 : Int32) (a2 : Int32) (s0 : Int32) : Option WI :=
  (Option.bind (F_X9_next (F_X9_needs I s0 5)) (fun v5 => (if (v5 33 26) = 0 then (if (v5 33 24) = 2 then (F_X9_readAct_74 v5 a1 a2 1) else (F_X9_readAct_74 v5 a1 a2 0)) else (F_X9_readAct_78 v5 a1 a2))))
theorem V_X9_readAct_45  {I : WI} {L : WL} {a1 : Int32} {a2 : Int32} {s0 : Int32} {P : WI → Prop} {t : Tg} (hs0 : bz s0 = s0) (hr : ∀ v, P v → t = (none, ly0, v, L, R0)) : oP P (F_X9_readAct_45 I a1 a2 s0) → V (zM x_X9_readAct 4 0 0 t) 45 [(0, .ref 33), (1, .int a1), (2, .int a2)] [.int s0, .ref 33] ly0 I L R0 0 0 :=
  fun _ =>
  have kq : (oP P (F_X9_readAct_45 I a1 a2 s0)) ∧ True := ⟨by assumption, trivial⟩
  V_iconst (tat ok_X9_readAct_0 (i := 25) (q := 46) rfl rfl) ic_5 <|
    V_cv2v (ct_X9_needs I L s0 5 ) mo_X9_needs (tat ok_X9_readAct_0 (i := 26) (q := 49) rfl rfl) ml_X9_138 rfl ⟨by decide, _, rfl, rfl⟩ ⟨(Nat.le_of_ble_eq_true rfl), (Nat.le_of_ble_eq_true rfl)⟩ ⟨(Nat.le_of_ble_eq_true rfl), (Nat.le_of_ble_eq_true rfl)⟩ (Nat.le_of_ble_eq_true rfl) <|
    V_aload_n (tat ok_X9_readAct_0 (i := 27) (q := 50) rfl rfl) 0 rfl rfl <|
    oP_case (jq (P := oP P) kq rfl) (fun v5 e5 _ => V_cv0v (ct_X9_next (F_X9_needs I s0 5) L   e5) mo_X9_next (tat ok_X9_readAct_0 (i := 28) (q := 53) rfl rfl) ml_X9_159 rfl ⟨by decide, _, rfl, rfl⟩ ⟨(Nat.le_of_ble_eq_true rfl), (Nat.le_of_ble_eq_true rfl)⟩ ⟨(Nat.le_of_ble_eq_true rfl), (Nat.le_of_ble_eq_true rfl)⟩ (Nat.le_of_ble_eq_true rfl) <|
    V_aload_n (tat ok_X9_readAct_0 (i := 29) (q := 54) rfl rfl) 0 rfl rfl <|
    V_getI (tat ok_X9_readAct_0 (i := 30) (q := 57) rfl rfl) fk_X9_101 rfl <|
    V_if_ne (tat ok_X9_readAct_0 (i := 31) (q := 60) rfl rfl) rfl (fun c6 => V_X9_readAct_78  hr (jq (P := oP P) kq (Eq.trans (ob e5) (if_neg c6)))) (fun c6 => V_aload_n (tat ok_X9_readAct_0 (i := 32) (q := 61) rfl rfl) 0 rfl rfl <|
    V_aload_n (tat ok_X9_readAct_0 (i := 33) (q := 62) rfl rfl) 0 rfl rfl <|
    V_getI (tat ok_X9_readAct_0 (i := 34) (q := 65) rfl rfl) fk_X9_124 rfl <|
    V_iconst (tat ok_X9_readAct_0 (i := 35) (q := 66) rfl rfl) ic_2 <|
    V_icmp_ne (tat ok_X9_readAct_0 (i := 36) (q := 69) rfl rfl) rfl (fun c7 => V_iconst (tat ok_X9_readAct_0 (i := 39) (q := 74) rfl rfl) ic_0 <|
    V_X9_readAct_74 rfl hr (jq (P := oP P) kq (Eq.trans (ob e5) (Eq.trans (if_pos c6) (if_neg c7))))) (fun c7 => V_iconst (tat ok_X9_readAct_0 (i := 37) (q := 70) rfl rfl) ic_1 <|
    V_goto (tat ok_X9_readAct_0 (i := 38) (q := 73) rfl rfl) rfl <|
    V_X9_readAct_74 rfl hr (jq (P := oP P) kq (Eq.trans (ob e5) (Eq.trans (if_pos c6) (if_pos c7)))))))
def F_X9_readAct_30 (I : WI) (a1 : Int32) (a2 : Int32) (s0 : Int32) : Option WI :=
  (if 3 ≤ a1 then (F_X9_readAct_45 (F_X9_needs I s0 2) a1 a2 0) else (F_X9_readAct_45 (F_X9_needs I s0 2) a1 a2 1))
theorem V_X9_readAct_30  {I : WI} {L : WL} {a1 : Int32} {a2 : Int32} {s0 : Int32} {P : WI → Prop} {t : Tg} (hs0 : bz s0 = s0) (hr : ∀ v, P v → t = (none, ly0, v, L, R0)) : oP P (F_X9_readAct_30 I a1 a2 s0) → V (zM x_X9_readAct 4 0 0 t) 30 [(0, .ref 33), (1, .int a1), (2, .int a2)] [.int s0, .ref 33] ly0 I L R0 0 0 :=
  fun _ =>
  have kq : (oP P (F_X9_readAct_30 I a1 a2 s0)) ∧ True := ⟨by assumption, trivial⟩
  V_iconst (tat ok_X9_readAct_0 (i := 16) (q := 31) rfl rfl) ic_2 <|
    V_cv2v (ct_X9_needs I L s0 2 ) mo_X9_needs (tat ok_X9_readAct_0 (i := 17) (q := 34) rfl rfl) ml_X9_138 rfl ⟨by decide, _, rfl, rfl⟩ ⟨(Nat.le_of_ble_eq_true rfl), (Nat.le_of_ble_eq_true rfl)⟩ ⟨(Nat.le_of_ble_eq_true rfl), (Nat.le_of_ble_eq_true rfl)⟩ (Nat.le_of_ble_eq_true rfl) <|
    V_aload_n (tat ok_X9_readAct_0 (i := 18) (q := 35) rfl rfl) 0 rfl rfl <|
    V_iload_n (tat ok_X9_readAct_0 (i := 19) (q := 36) rfl rfl) 1 rfl rfl <|
    V_iconst (tat ok_X9_readAct_0 (i := 20) (q := 37) rfl rfl) ic_3 <|
    V_icmp_ge (tat ok_X9_readAct_0 (i := 21) (q := 40) rfl rfl) rfl (fun c4 => V_iconst (tat ok_X9_readAct_0 (i := 24) (q := 45) rfl rfl) ic_0 <|
    V_X9_readAct_45 rfl hr (jq (P := oP P) kq (if_pos c4))) (fun c4 => V_iconst (tat ok_X9_readAct_0 (i := 22) (q := 41) rfl rfl) ic_1 <|
    V_goto (tat ok_X9_readAct_0 (i := 23) (q := 44) rfl rfl) rfl <|
    V_X9_readAct_45 rfl hr (jq (P := oP P) kq (if_neg c4)))
def F_X9_readAct_17 (I : WI) (a1 : Int32) (s0 : Int32) : Option WI :=
  (if s0 = (-4) then (F_X9_readAct_30 I a1 s0 0) else (F_X9_readAct_30 I a1 s0 1))
theorem V_X9_readAct_17  {I : WI} {L : WL} {a1 : Int32} {s0 : Int32} {P : WI → Prop} {t : Tg} (hr : ∀ v, P v → t = (none, ly0, v, L, R0)) : oP P (F_X9_readAct_17 I a1 s0) → V (zM x_X9_readAct 4 0 0 t) 17 [(0, .ref 33), (1, .int a1)] [.int s0] ly0 I L R0 0 0 :=
  fun _ =>
  have kq : (oP P (F_X9_readAct_17 I a1 s0)) ∧ True := ⟨by assumption, trivial⟩
  V_istore_n (lv' := [(2, .int s0), (0, .ref 33), (1, .int a1)]) (tat ok_X9_readAct_0 (i := 8) (q := 18) rfl rfl) rfl (Nat.le_of_ble_eq_true rfl) rfl <|
    V_aload_n (tat ok_X9_readAct_0 (i := 9) (q := 19) rfl rfl) 1 rfl rfl <|
    V_iload_n (tat ok_X9_readAct_0 (i := 10) (q := 20) rfl rfl) 0 rfl rfl <|
    V_bipush (tat ok_X9_readAct_0 (i := 11) (q := 22) rfl rfl) bp_m4 <|
    V_icmp_eq (tat ok_X9_readAct_0 (i := 12) (q := 25) rfl rfl) rfl (fun c3 => V_iconst (tat ok_X9_readAct_0 (i := 15) (q := 30) rfl rfl) ic_0 <|
    V_pick [1, 2, 0] rfl (V_X9_readAct_30 rfl hr (jq (P := oP P) kq (if_pos c3)))) (fun c3 => V_iconst (tat ok_X9_readAct_0 (i := 13) (q := 26) rfl rfl) ic_1 <|
    V_goto (tat ok_X9_readAct_0 (i := 14) (q := 29) rfl rfl) rfl <|
    V_pick [1, 2, 0] rfl (V_X9_readAct_30 rfl hr (jq (P := oP P) kq (if_neg c3))))
def F_X9_readAct (I : WI) (a1 : Int32) : Option WI :=
  (if (I 33 24) = 1 then (Option.bind (F_X9_actNow I) (fun v2 => (F_X9_readAct_17 I a1 v2))) else (F_X9_readAct_17 I a1 (-4)))
theorem V_X9_readAct  {I : WI} {L : WL} {a1 : Int32}  {P : WI → Prop} {t : Tg} (hr : ∀ v, P v → t = (none, ly0, v, L, R0)) : oP P (F_X9_readAct I a1) → V (zM x_X9_readAct 4 0 0 t) 0 [(0, .ref 33), (1, .int a1)] [] ly0 I L R0 0 0 :=
  fun _ =>
  have kq : (oP P (F_X9_readAct I a1)) ∧ True := ⟨by assumption, trivial⟩
  V_aload_n (tat ok_X9_readAct_0 (i := 0) (q := 1) rfl rfl) 0 rfl rfl <|
    V_getI (tat ok_X9_readAct_0 (i := 1) (q := 4) rfl rfl) fk_X9_124 rfl <|
    V_iconst (tat ok_X9_readAct_0 (i := 2) (q := 5) rfl rfl) ic_1 <|
    V_icmp_ne (tat ok_X9_readAct_0 (i := 3) (q := 8) rfl rfl) rfl (fun c1 => V_bipush (tat ok_X9_readAct_0 (i := 7) (q := 17) rfl rfl) bp_m4 <|
    V_X9_readAct_17  hr (jq (P := oP P) kq (if_neg c1))) (fun c1 => V_aload_n (tat ok_X9_readAct_0 (i := 4) (q := 9) rfl rfl) 0 rfl rfl <|
    oP_case (jq (P := oP P) kq (if_pos c1)) (fun v2 e2 _ => V_cv0 (ct_X9_actNow I L   e2) mo_X9_actNow (tat ok_X9_readAct_0 (i := 5) (q := 12) rfl rfl) ml_X9_162 rfl ⟨by decide, _, rfl, rfl⟩ ⟨(Nat.le_of_ble_eq_true rfl), (Nat.le_of_ble_eq_true rfl)⟩ ⟨(Nat.le_of_ble_eq_true rfl), (Nat.le_of_ble_eq_true rfl)⟩ (Nat.le_of_ble_eq_true rfl) <|
    V_goto (tat ok_X9_readAct_0 (i := 6) (q := 15) rfl rfl) rfl <|
    V_X9_readAct_17  hr (jq (P := oP P) kq (Eq.trans (if_pos c1) (ob e2)))))
theorem ct_X9_readAct  (I : WI) (L : WL) (a1 : Int32)  {v : WI} (h : (F_X9_readAct I a1) = some v) : Ct x_X9_readAct 4 [.ref 33, .int a1] ly0 I L R0 0 0 (none, ly0, v, L, R0) :=
  Ct_of_V mo_X9_readAct.1 (Nat.le_of_ble_eq_true rfl) (V_X9_readAct (P := fun x => x = v)  (fun _ e => by rw [e]) (by rw [h]; exact rfl))
def F_X9_readDay_36_1 (I : WI)  (a1 : Int32) (s0 : Int32) : Option ((Int32 × WI) ⊕ (Int32 × Int32 × WI)) :=
  some (.inr (a1, s0, I))
theorem V_X9_readDay_36_1  {I : WI} {L : WL}  {a1 : Int32} {s0 : Int32} {P : ((Int32 × WI) ⊕ (Int32 × Int32 × WI)) → Prop} {t : Tg} (hs0 : bz s0 = s0) (he : ∀ x : (Int32 × WI), P (.inl x) → V (zM x_X9_readDay 5 0 0 t) 40 [(0, .ref 33), (1, .int (p1 x))] [] ly0 (p2 x) L R0 0 0) (hk : ∀ x : (Int32 × Int32 × WI), P (.inr x) → V (zM x_X9_readDay 5 0 0 t) 4 [(0, .ref 33), (1, .int (p1 x)), (2, .int (p1 (p2 x)))] [] ly0 (p2 (p2 x)) L R0 0 0) : oP P (F_X9_readDay_36_1 I a1 s0) → V (zM x_X9_readDay 5 0 0 t) 36 [(0, .ref 33), (1, .int a1)] [.int s0] ly0 I L R0 0 0 :=
  fun _ =>
  have kq : (oP P (F_X9_readDay_36_1 I a1 s0)) ∧ True := ⟨by assumption, trivial⟩
  V_istore_n (lv' := [(2, .int s0), (0, .ref 33), (1, .int a1)]) (tat ok_X9_readDay_0 (i := 20) (q := 37) rfl rfl) rfl (Nat.le_of_ble_eq_true rfl) rfl <|
    V_goto (tat ok_X9_readDay_0 (i := 21) (q := 40) rfl rfl) rfl <|
    V_pick [1, 2, 0] rfl (hk (a1, s0, I) (jq (P := oP P) kq rfl))
def F_X9_readDay_4_1 (I : WI)  (a1 : Int32) (a2 : Int32) : Option ((Int32 × WI) ⊕ (Int32 × Int32 × WI)) :=
  (if (I 33 26) = 0 then (if a2 = 0 then some (.inl (a1, I)) else (Option.bind (F_X9_readAct I a1) (fun v3 => (if (v3 33 24) = 1 then (F_X9_readDay_36_1 v3 (a1 + 1) 1) else (F_X9_readDay_36_1 v3 (a1 + 1) 0))))) else some (.inl (a1, I)))
theorem V_X9_readDay_4_1  {I : WI} {L : WL}  {a1 : Int32} {a2 : Int32} {P : ((Int32 × WI) ⊕ (Int32 × Int32 × WI)) → Prop} {t : Tg} (he : ∀ x : (Int32 × WI), P (.inl x) → V (zM x_X9_readDay 5 0 0 t) 40 [(0, .ref 33), (1, .int (p1 x))] [] ly0 (p2 x) L R0 0 0) (hk : ∀ x : (Int32 × Int32 × WI), P (.inr x) → V (zM x_X9_readDay 5 0 0 t) 4 [(0, .ref 33), (1, .int (p1 x)), (2, .int (p1 (p2 x)))] [] ly0 (p2 (p2 x)) L R0 0 0) : oP P (F_X9_readDay_4_1 I a1 a2) → V (zM x_X9_readDay 5 0 0 t) 4 [(0, .ref 33), (1, .int a1), (2, .int a2)] [] ly0 I L R0 0 0 :=
  fun _ =>
  have kq : (oP P (F_X9_readDay_4_1 I a1 a2)) ∧ True := ⟨by assumption, trivial⟩
  V_aload_n (tat ok_X9_readDay_0 (i := 4) (q := 5) rfl rfl) 0 rfl rfl <|
    V_getI (tat ok_X9_readDay_0 (i := 5) (q := 8) rfl rfl) fk_X9_101 rfl <|
    V_if_ne (tat ok_X9_readDay_0 (i := 6) (q := 11) rfl rfl) rfl (fun c1 => V_pick [0, 1] rfl (he (a1, I) (jq (P := oP P) kq (if_neg c1)))) (fun c1 => V_iload_n (tat ok_X9_readDay_0 (i := 7) (q := 12) rfl rfl) 2 rfl rfl <|
    V_if_eq (tat ok_X9_readDay_0 (i := 8) (q := 15) rfl rfl) rfl (fun c2 => V_pick [0, 1] rfl (he (a1, I) (jq (P := oP P) kq (Eq.trans (if_pos c1) (if_pos c2))))) (fun c2 => V_aload_n (tat ok_X9_readDay_0 (i := 9) (q := 16) rfl rfl) 0 rfl rfl <|
    V_iload_n (tat ok_X9_readDay_0 (i := 10) (q := 17) rfl rfl) 1 rfl rfl <|
    oP_case (jq (P := oP P) kq (Eq.trans (if_pos c1) (if_neg c2))) (fun v3 e3 _ => V_cv1v (ct_X9_readAct I L a1  e3) mo_X9_readAct (tat ok_X9_readDay_0 (i := 11) (q := 20) rfl rfl) ml_X9_170 rfl ⟨by decide, _, rfl, rfl⟩ ⟨(Nat.le_of_ble_eq_true rfl), (Nat.le_of_ble_eq_true rfl)⟩ ⟨(Nat.le_of_ble_eq_true rfl), (Nat.le_of_ble_eq_true rfl)⟩ (Nat.le_of_ble_eq_true rfl) <|
    V_iinc (v := (a1 + 1)) (lv' := [(1, .int (a1 + 1)), (0, .ref 33), (2, .int a2)]) (tat ok_X9_readDay_0 (i := 12) (q := 23) rfl rfl) 1 rfl (ia ic_1) (Nat.le_of_ble_eq_true rfl) rfl <|
    V_aload_n (tat ok_X9_readDay_0 (i := 13) (q := 24) rfl rfl) 1 rfl rfl <|
    V_getI (tat ok_X9_readDay_0 (i := 14) (q := 27) rfl rfl) fk_X9_124 rfl <|
    V_iconst (tat ok_X9_readDay_0 (i := 15) (q := 28) rfl rfl) ic_1 <|
    V_icmp_ne (tat ok_X9_readDay_0 (i := 16) (q := 31) rfl rfl) rfl (fun c4 => V_iconst (tat ok_X9_readDay_0 (i := 19) (q := 36) rfl rfl) ic_0 <|
    V_pick [1, 0] rfl (V_X9_readDay_36_1 rfl he hk (jq (P := oP P) kq (Eq.trans (if_pos c1) (Eq.trans (if_neg c2) (Eq.trans (ob e3) (if_neg c4))))))) (fun c4 => V_iconst (tat ok_X9_readDay_0 (i := 17) (q := 32) rfl rfl) ic_1 <|
    V_goto (tat ok_X9_readDay_0 (i := 18) (q := 35) rfl rfl) rfl <|
    V_pick [1, 0] rfl (V_X9_readDay_36_1 rfl he hk (jq (P := oP P) kq (Eq.trans (if_pos c1) (Eq.trans (if_neg c2) (Eq.trans (ob e3) (if_pos c4))))))))))
def F_X9_readDay_69 (I : WI) : Option WI :=
  some I
theorem V_X9_readDay_69  {I : WI} {L : WL}   {P : WI → Prop} {t : Tg} (hr : ∀ v, P v → t = (none, ly0, v, L, R0)) : oP P (F_X9_readDay_69 I) → V (zM x_X9_readDay 5 0 0 t) 69 [(0, .ref 33)] [] ly0 I L R0 0 0 :=
  fun _ =>
  have kq : (oP P (F_X9_readDay_69 I)) ∧ True := ⟨by assumption, trivial⟩
  V_vret (tat ok_X9_readDay_0 (i := 39) (q := 70) rfl rfl) rfl (hr I (jq (P := oP P) kq rfl)) ⟨(Nat.le_of_ble_eq_true rfl), (Nat.le_of_ble_eq_true rfl)⟩
def F_X9_readDay_40 (I : WI)  (a1 : Int32) : Option WI :=
  (if (I 33 26) = 0 then (if (4 * (I 33 18)) < 0 ∨ 48 ≤ Int32.toNatClampNeg (4 * (I 33 18)) then none else (F_X9_readDay_69 (u2 (u2 I 38 (Int32.toNatClampNeg (4 * (I 33 18))) a1) 33 18 (((u2 I 38 (Int32.toNatClampNeg (4 * (I 33 18))) a1) 33 18) + 1)))) else (F_X9_readDay_69 I))
theorem V_X9_readDay_40  {I : WI} {L : WL}  {a1 : Int32} {P : WI → Prop} {t : Tg} (hr : ∀ v, P v → t = (none, ly0, v, L, R0)) : oP P (F_X9_readDay_40 I a1) → V (zM x_X9_readDay 5 0 0 t) 40 [(0, .ref 33), (1, .int a1)] [] ly0 I L R0 0 0 :=
  fun _ =>
  have kq : (oP P (F_X9_readDay_40 I a1)) ∧ True := ⟨by assumption, trivial⟩
  V_aload_n (tat ok_X9_readDay_0 (i := 22) (q := 41) rfl rfl) 0 rfl rfl <|
    V_getI (tat ok_X9_readDay_0 (i := 23) (q := 44) rfl rfl) fk_X9_101 rfl <|
    V_if_ne (tat ok_X9_readDay_0 (i := 24) (q := 47) rfl rfl) rfl (fun c5 => V_pick [0] rfl (V_X9_readDay_69  hr (jq (P := oP P) kq (if_neg c5)))) (fun c5 => V_aload_n (tat ok_X9_readDay_0 (i := 25) (q := 48) rfl rfl) 0 rfl rfl <|
    V_getR (tat ok_X9_readDay_0 (i := 26) (q := 51) rfl rfl) fk_X9_23 rfl rfl <|
    V_iconst (tat ok_X9_readDay_0 (i := 27) (q := 52) rfl rfl) ic_4 <|
    V_aload_n (tat ok_X9_readDay_0 (i := 28) (q := 53) rfl rfl) 0 rfl rfl <|
    V_getI (tat ok_X9_readDay_0 (i := 29) (q := 56) rfl rfl) fk_X9_71 rfl <|
    V_imul (tat ok_X9_readDay_0 (i := 30) (q := 57) rfl rfl) <|
    V_iload_n (tat ok_X9_readDay_0 (i := 31) (q := 58) rfl rfl) 1 rfl rfl <|
    (if c6 : (4 * (I 33 18)) < 0 ∨ 48 ≤ Int32.toNatClampNeg (4 * (I 33 18)) then ((jq (P := oP P) kq (Eq.trans (if_pos c5) (if_pos c6)))).elim else V_iast (tat ok_X9_readDay_0 (i := 32) (q := 59) rfl rfl) rfl c6 <|
    V_aload_n (tat ok_X9_readDay_0 (i := 33) (q := 60) rfl rfl) 0 rfl rfl <|
    V_dup (tat ok_X9_readDay_0 (i := 34) (q := 61) rfl rfl) rfl <|
    V_getI (tat ok_X9_readDay_0 (i := 35) (q := 64) rfl rfl) fk_X9_71 rfl <|
    V_iconst (tat ok_X9_readDay_0 (i := 36) (q := 65) rfl rfl) ic_1 <|
    V_iadd (tat ok_X9_readDay_0 (i := 37) (q := 66) rfl rfl) <|
    V_putI (tat ok_X9_readDay_0 (i := 38) (q := 69) rfl rfl) fk_X9_71 rfl rfl <|
    V_pick [0] rfl (V_X9_readDay_69  hr (jq (P := oP P) kq (Eq.trans (if_pos c5) (if_neg c6))))))
def F_X9_readDay_4 (I : WI)  (a1 : Int32) (a2 : Int32) : Option WI :=
  (lpp (fun x => (F_X9_readDay_4_1 (p2 (p2 x)) (p1 x) (p1 (p2 x)))) 4294967296 (a1, a2, I)).bind (fun q => (F_X9_readDay_40 (p2 q) (p1 q)))
theorem V_X9_readDay_4  {I : WI} {L : WL}  {a1 : Int32} {a2 : Int32} {P : WI → Prop} {t : Tg} (hb1 : bz a1 = a1) (hb2 : bz a2 = a2) (hr : ∀ v, P v → t = (none, ly0, v, L, R0)) (kk : oP P (F_X9_readDay_4 I a1 a2)) : V (zM x_X9_readDay 5 0 0 t) 4 [(0, .ref 33), (1, .int a1), (2, .int a2)] [] ly0 I L R0 0 0 :=
  V_lpp (fun x => (F_X9_readDay_4_1 (p2 (p2 x)) (p1 x) (p1 (p2 x)))) (fun x => V (zM x_X9_readDay 5 0 0 t) 4 [(0, .ref 33), (1, .int (p1 x)), (2, .int (p1 (p2 x)))] [] ly0 (p2 (p2 x)) L R0 0 0) (fun x => oP P ((F_X9_readDay_40 (p2 x) (p1 x)))) (s := (a1, a2, I)) (fun x e0 => V_X9_readDay_4_1 (P := Sum.elim (fun x => oP P ((F_X9_readDay_40 (p2 x) (p1 x)))) (fun x => V (zM x_X9_readDay 5 0 0 t) 4 [(0, .ref 33), (1, .int (p1 x)), (2, .int (p1 (p2 x)))] [] ly0 (p2 (p2 x)) L R0 0 0))  (fun x e => V_X9_readDay_40  hr e) (fun _ e => e) e0) (oP_bind (f := fun q => _) kk)
def F_X9_readDay (I : WI) : Option WI :=
  (F_X9_readDay_4 I 0 1)
theorem V_X9_readDay  {I : WI} {L : WL}   {P : WI → Prop} {t : Tg} (hr : ∀ v, P v → t = (none, ly0, v, L, R0)) : oP P (F_X9_readDay I) → V (zM x_X9_readDay 5 0 0 t) 0 [(0, .ref 33)] [] ly0 I L R0 0 0 :=
  fun _ =>
  have kq : (oP P (F_X9_readDay I)) ∧ True := ⟨by assumption, trivial⟩
  V_iconst (tat ok_X9_readDay_0 (i := 0) (q := 1) rfl rfl) ic_0 <|
    V_istore_n (lv' := [(1, .int 0), (0, .ref 33)]) (tat ok_X9_readDay_0 (i := 1) (q := 2) rfl rfl) rfl (Nat.le_of_ble_eq_true rfl) rfl <|
    V_iconst (tat ok_X9_readDay_0 (i := 2) (q := 3) rfl rfl) ic_1 <|
    V_istore_n (lv' := [(2, .int 1), (1, .int 0), (0, .ref 33)]) (tat ok_X9_readDay_0 (i := 3) (q := 4) rfl rfl) rfl (Nat.le_of_ble_eq_true rfl) rfl <|
    V_pick [2, 1, 0] rfl (V_X9_readDay_4 rfl rfl hr (jq (P := oP P) kq rfl))
theorem ct_X9_readDay  (I : WI) (L : WL)  {v : WI} (h : (F_X9_readDay I) = some v) : Ct x_X9_readDay 5 [.ref 33] ly0 I L R0 0 0 (none, ly0, v, L, R0) :=
  Ct_of_V mo_X9_readDay.1 (Nat.le_of_ble_eq_true rfl) (V_X9_readDay (P := fun x => x = v)  (fun _ e => by rw [e]) (by rw [h]; exact rfl))
def F_X9_readLine_216 (I : WI) (L : WL) : Option (WI × WL) :=
  (Option.bind (F_X9_next I) (fun v16 => some (v16, L)))
theorem V_X9_readLine_216  {I : WI} {L : WL}   {P : (WI × WL) → Prop} {t : Tg} (hr : ∀ v, P v → t = (none, ly0, (p1 v), (p2 v), R0)) : oP P (F_X9_readLine_216 I L) → V (zM x_X9_readLine 6 0 0 t) 216 [(0, .ref 33)] [] ly0 I L R0 0 0 :=
  fun _ =>
  have kq : (oP P (F_X9_readLine_216 I L)) ∧ True := ⟨by assumption, trivial⟩
  V_aload_n (tat ok_X9_readLine_2 (i := 30) (q := 217) rfl rfl) 0 rfl rfl <|
    oP_case (jq (P := oP P) kq rfl) (fun v16 e16 _ => V_cv0v (ct_X9_next I L   e16) mo_X9_next (tat ok_X9_readLine_2 (i := 31) (q := 220) rfl rfl) ml_X9_159 rfl ⟨by decide, _, rfl, rfl⟩ ⟨(Nat.le_of_ble_eq_true rfl), (Nat.le_of_ble_eq_true rfl)⟩ ⟨(Nat.le_of_ble_eq_true rfl), (Nat.le_of_ble_eq_true rfl)⟩ (Nat.le_of_ble_eq_true rfl) <|
    V_vret (tat ok_X9_readLine_2 (i := 32) (q := 221) rfl rfl) rfl (hr (v16, L) (jq (P := oP P) kq (ob e16))) ⟨(Nat.le_of_ble_eq_true rfl), (Nat.le_of_ble_eq_true rfl)⟩)
def F_X9_readLine_212 (I : WI) (L : WL)  (s0 : Int32) : Option (WI × WL) :=
  (F_X9_readLine_216 (F_X9_needs I s0 2) L)
theorem V_X9_readLine_212  {I : WI} {L : WL}  {s0 : Int32} {P : (WI × WL) → Prop} {t : Tg} (hs0 : bz s0 = s0) (hr : ∀ v, P v → t = (none, ly0, (p1 v), (p2 v), R0)) : oP P (F_X9_readLine_212 I L s0) → V (zM x_X9_readLine 6 0 0 t) 212 [(0, .ref 33)] [.int s0, .ref 33] ly0 I L R0 0 0 :=
  fun _ =>
  have kq : (oP P (F_X9_readLine_212 I L s0)) ∧ True := ⟨by assumption, trivial⟩
  V_iconst (tat ok_X9_readLine_2 (i := 28) (q := 213) rfl rfl) ic_2 <|
    V_cv2v (ct_X9_needs I L s0 2 ) mo_X9_needs (tat ok_X9_readLine_2 (i := 29) (q := 216) rfl rfl) ml_X9_138 rfl ⟨by decide, _, rfl, rfl⟩ ⟨(Nat.le_of_ble_eq_true rfl), (Nat.le_of_ble_eq_true rfl)⟩ ⟨(Nat.le_of_ble_eq_true rfl), (Nat.le_of_ble_eq_true rfl)⟩ (Nat.le_of_ble_eq_true rfl) <|
    V_X9_readLine_216  hr (jq (P := oP P) kq rfl)
def F_X9_readLine_191 (I : WI) (L : WL) : Option (WI × WL) :=
  (if (I 33 26) = 0 then (if (I 33 24) = 3 then (F_X9_readLine_212 I L 1) else (F_X9_readLine_212 I L 0)) else (F_X9_readLine_216 I L))
theorem V_X9_readLine_191  {I : WI} {L : WL}   {P : (WI × WL) → Prop} {t : Tg} (hr : ∀ v, P v → t = (none, ly0, (p1 v), (p2 v), R0)) : oP P (F_X9_readLine_191 I L) → V (zM x_X9_readLine 6 0 0 t) 191 [(0, .ref 33)] [] ly0 I L R0 0 0 :=
  fun _ =>
  have kq : (oP P (F_X9_readLine_191 I L)) ∧ True := ⟨by assumption, trivial⟩
  V_aload_n (tat ok_X9_readLine_2 (i := 17) (q := 192) rfl rfl) 0 rfl rfl <|
    V_getI (tat ok_X9_readLine_2 (i := 18) (q := 195) rfl rfl) fk_X9_101 rfl <|
    V_if_ne (tat ok_X9_readLine_2 (i := 19) (q := 198) rfl rfl) rfl (fun c14 => V_X9_readLine_216  hr (jq (P := oP P) kq (if_neg c14))) (fun c14 => V_aload_n (tat ok_X9_readLine_2 (i := 20) (q := 199) rfl rfl) 0 rfl rfl <|
    V_aload_n (tat ok_X9_readLine_2 (i := 21) (q := 200) rfl rfl) 0 rfl rfl <|
    V_getI (tat ok_X9_readLine_2 (i := 22) (q := 203) rfl rfl) fk_X9_124 rfl <|
    V_iconst (tat ok_X9_readLine_2 (i := 23) (q := 204) rfl rfl) ic_3 <|
    V_icmp_ne (tat ok_X9_readLine_2 (i := 24) (q := 207) rfl rfl) rfl (fun c15 => V_iconst (tat ok_X9_readLine_2 (i := 27) (q := 212) rfl rfl) ic_0 <|
    V_X9_readLine_212 rfl hr (jq (P := oP P) kq (Eq.trans (if_pos c14) (if_neg c15)))) (fun c15 => V_iconst (tat ok_X9_readLine_2 (i := 25) (q := 208) rfl rfl) ic_1 <|
    V_goto (tat ok_X9_readLine_2 (i := 26) (q := 211) rfl rfl) rfl <|
    V_X9_readLine_212 rfl hr (jq (P := oP P) kq (Eq.trans (if_pos c14) (if_pos c15)))))
def F_X9_readLine_91 (I : WI) (L : WL)  (a1 : Int32) (s0 : Int32) : Option (WI × WL) :=
  (Option.bind (F_X9_next (F_X9_needs I s0 4)) (fun v10 => (if (v10 33 26) ≤ 0 then (if a1 = 12 then (Option.bind (F_X9_readDay v10) (fun v13 => (F_X9_readLine_191 v13 L))) else (Option.bind (F_X9_readRows v10 L) (fun v17 => (if a1 = 10 then (F_X9_readLine_191 (u2 (u2 (u2 (p1 v17) 33 16 1) 33 10 ((u2 (p1 v17) 33 16 1) 33 28)) 33 11 ((u2 (u2 (p1 v17) 33 16 1) 33 10 ((u2 (p1 v17) 33 16 1) 33 28)) 33 29)) (u2 (p2 v17) 33 12 ((p2 v17) 33 30))) else (F_X9_readLine_191 (u2 (u2 (u2 (p1 v17) 33 17 1) 33 13 ((u2 (p1 v17) 33 17 1) 33 28)) 33 14 ((u2 (u2 (p1 v17) 33 17 1) 33 13 ((u2 (p1 v17) 33 17 1) 33 28)) 33 29)) (u2 (p2 v17) 33 15 ((p2 v17) 33 30))))))) else some (v10, L))))
theorem V_X9_readLine_91  {I : WI} {L : WL}  {a1 : Int32} {s0 : Int32} {P : (WI × WL) → Prop} {t : Tg} (hs0 : bz s0 = s0) (hr : ∀ v, P v → t = (none, ly0, (p1 v), (p2 v), R0)) : oP P (F_X9_readLine_91 I L a1 s0) → V (zM x_X9_readLine 6 0 0 t) 91 [(0, .ref 33), (1, .int a1)] [.int s0, .ref 33] ly0 I L R0 0 0 :=
  fun _ =>
  have kq : (oP P (F_X9_readLine_91 I L a1 s0)) ∧ True := ⟨by assumption, trivial⟩
  V_iconst (tat ok_X9_readLine_1 (i := 7) (q := 92) rfl rfl) ic_4 <|
    V_cv2v (ct_X9_needs I L s0 4 ) mo_X9_needs (tat ok_X9_readLine_1 (i := 8) (q := 95) rfl rfl) ml_X9_138 rfl ⟨by decide, _, rfl, rfl⟩ ⟨(Nat.le_of_ble_eq_true rfl), (Nat.le_of_ble_eq_true rfl)⟩ ⟨(Nat.le_of_ble_eq_true rfl), (Nat.le_of_ble_eq_true rfl)⟩ (Nat.le_of_ble_eq_true rfl) <|
    V_aload_n (tat ok_X9_readLine_1 (i := 9) (q := 96) rfl rfl) 0 rfl rfl <|
    oP_case (jq (P := oP P) kq rfl) (fun v10 e10 _ => V_cv0v (ct_X9_next (F_X9_needs I s0 4) L   e10) mo_X9_next (tat ok_X9_readLine_1 (i := 10) (q := 99) rfl rfl) ml_X9_159 rfl ⟨by decide, _, rfl, rfl⟩ ⟨(Nat.le_of_ble_eq_true rfl), (Nat.le_of_ble_eq_true rfl)⟩ ⟨(Nat.le_of_ble_eq_true rfl), (Nat.le_of_ble_eq_true rfl)⟩ (Nat.le_of_ble_eq_true rfl) <|
    V_aload_n (tat ok_X9_readLine_1 (i := 11) (q := 100) rfl rfl) 0 rfl rfl <|
    V_getI (tat ok_X9_readLine_1 (i := 12) (q := 103) rfl rfl) fk_X9_101 rfl <|
    V_if_le (tat ok_X9_readLine_1 (i := 13) (q := 106) rfl rfl) rfl (fun c11 => V_iload_n (tat ok_X9_readLine_1 (i := 15) (q := 108) rfl rfl) 1 rfl rfl <|
    V_bipush (tat ok_X9_readLine_1 (i := 16) (q := 110) rfl rfl) bp_12 <|
    V_icmp_ne (tat ok_X9_readLine_1 (i := 17) (q := 113) rfl rfl) rfl (fun c12 => V_aload_n (tat ok_X9_readLine_1 (i := 21) (q := 121) rfl rfl) 0 rfl rfl <|
    oP_case (jq (P := oP P) kq (Eq.trans (ob e10) (Eq.trans (if_pos c11) (if_neg c12)))) (fun v17 e17 _ => V_cv0v (ct_X9_readRows v10 L   e17) mo_X9_readRows (tat ok_X9_readLine_1 (i := 22) (q := 124) rfl rfl) ml_X9_180 rfl ⟨by decide, _, rfl, rfl⟩ ⟨(Nat.le_of_ble_eq_true rfl), (Nat.le_of_ble_eq_true rfl)⟩ ⟨(Nat.le_of_ble_eq_true rfl), (Nat.le_of_ble_eq_true rfl)⟩ (Nat.le_of_ble_eq_true rfl) <|
    V_iload_n (tat ok_X9_readLine_1 (i := 23) (q := 125) rfl rfl) 1 rfl rfl <|
    V_bipush (tat ok_X9_readLine_1 (i := 24) (q := 127) rfl rfl) bp_10 <|
    V_icmp_ne (tat ok_X9_readLine_1 (i := 25) (q := 130) rfl rfl) rfl (fun c18 => V_aload_n (tat ok_X9_readLine_2 (i := 2) (q := 163) rfl rfl) 0 rfl rfl <|
    V_iconst (tat ok_X9_readLine_2 (i := 3) (q := 164) rfl rfl) ic_1 <|
    V_putZ (tat ok_X9_readLine_2 (i := 4) (q := 167) rfl rfl) fk_X9_68 rfl rfl rfl <|
    V_aload_n (tat ok_X9_readLine_2 (i := 5) (q := 168) rfl rfl) 0 rfl rfl <|
    V_aload_n (tat ok_X9_readLine_2 (i := 6) (q := 169) rfl rfl) 0 rfl rfl <|
    V_getI (tat ok_X9_readLine_2 (i := 7) (q := 172) rfl rfl) fk_X9_142 rfl <|
    V_putI (tat ok_X9_readLine_2 (i := 8) (q := 175) rfl rfl) fk_X9_183 rfl rfl <|
    V_aload_n (tat ok_X9_readLine_2 (i := 9) (q := 176) rfl rfl) 0 rfl rfl <|
    V_aload_n (tat ok_X9_readLine_2 (i := 10) (q := 177) rfl rfl) 0 rfl rfl <|
    V_getI (tat ok_X9_readLine_2 (i := 11) (q := 180) rfl rfl) fk_X9_145 rfl <|
    V_putI (tat ok_X9_readLine_2 (i := 12) (q := 183) rfl rfl) fk_X9_186 rfl rfl <|
    V_aload_n (tat ok_X9_readLine_2 (i := 13) (q := 184) rfl rfl) 0 rfl rfl <|
    V_aload_n (tat ok_X9_readLine_2 (i := 14) (q := 185) rfl rfl) 0 rfl rfl <|
    V_getL (tat ok_X9_readLine_2 (i := 15) (q := 188) rfl rfl) fk_X9_148 rfl <|
    V_putL (tat ok_X9_readLine_2 (i := 16) (q := 191) rfl rfl) fk_X9_61 rfl rfl <|
    V_pick [0] rfl (V_X9_readLine_191  hr (jq (P := oP P) kq (Eq.trans (ob e10) (Eq.trans (if_pos c11) (Eq.trans (if_neg c12) (Eq.trans (ob e17) (if_neg c18)))))))) (fun c18 => V_aload_n (tat ok_X9_readLine_1 (i := 26) (q := 131) rfl rfl) 0 rfl rfl <|
    V_iconst (tat ok_X9_readLine_1 (i := 27) (q := 132) rfl rfl) ic_1 <|
    V_putZ (tat ok_X9_readLine_1 (i := 28) (q := 135) rfl rfl) fk_X9_64 rfl rfl rfl <|
    V_aload_n (tat ok_X9_readLine_1 (i := 29) (q := 136) rfl rfl) 0 rfl rfl <|
    V_aload_n (tat ok_X9_readLine_1 (i := 30) (q := 137) rfl rfl) 0 rfl rfl <|
    V_getI (tat ok_X9_readLine_1 (i := 31) (q := 140) rfl rfl) fk_X9_142 rfl <|
    V_putI (tat ok_X9_readLine_1 (i := 32) (q := 143) rfl rfl) fk_X9_50 rfl rfl <|
    V_aload_n (tat ok_X9_readLine_1 (i := 33) (q := 144) rfl rfl) 0 rfl rfl <|
    V_aload_n (tat ok_X9_readLine_1 (i := 34) (q := 145) rfl rfl) 0 rfl rfl <|
    V_getI (tat ok_X9_readLine_1 (i := 35) (q := 148) rfl rfl) fk_X9_145 rfl <|
    V_putI (tat ok_X9_readLine_1 (i := 36) (q := 151) rfl rfl) fk_X9_54 rfl rfl <|
    V_aload_n (tat ok_X9_readLine_1 (i := 37) (q := 152) rfl rfl) 0 rfl rfl <|
    V_aload_n (tat ok_X9_readLine_1 (i := 38) (q := 153) rfl rfl) 0 rfl rfl <|
    V_getL (tat ok_X9_readLine_1 (i := 39) (q := 156) rfl rfl) fk_X9_148 rfl <|
    V_putL (tat ok_X9_readLine_2 (i := 0) (q := 159) rfl rfl) fk_X9_57 rfl rfl <|
    V_goto (tat ok_X9_readLine_2 (i := 1) (q := 162) rfl rfl) rfl <|
    V_pick [0] rfl (V_X9_readLine_191  hr (jq (P := oP P) kq (Eq.trans (ob e10) (Eq.trans (if_pos c11) (Eq.trans (if_neg c12) (Eq.trans (ob e17) (if_pos c18)))))))))) (fun c12 => V_aload_n (tat ok_X9_readLine_1 (i := 18) (q := 114) rfl rfl) 0 rfl rfl <|
    oP_case (jq (P := oP P) kq (Eq.trans (ob e10) (Eq.trans (if_pos c11) (if_pos c12)))) (fun v13 e13 _ => V_cv0v (ct_X9_readDay v10 L   e13) mo_X9_readDay (tat ok_X9_readLine_1 (i := 19) (q := 117) rfl rfl) ml_X9_177 rfl ⟨by decide, _, rfl, rfl⟩ ⟨(Nat.le_of_ble_eq_true rfl), (Nat.le_of_ble_eq_true rfl)⟩ ⟨(Nat.le_of_ble_eq_true rfl), (Nat.le_of_ble_eq_true rfl)⟩ (Nat.le_of_ble_eq_true rfl) <|
    V_goto (tat ok_X9_readLine_1 (i := 20) (q := 120) rfl rfl) rfl <|
    V_pick [0] rfl (V_X9_readLine_191  hr (jq (P := oP P) kq (Eq.trans (ob e10) (Eq.trans (if_pos c11) (Eq.trans (if_pos c12) (ob e13))))))))) (fun c11 => V_vret (tat ok_X9_readLine_1 (i := 14) (q := 107) rfl rfl) rfl (hr (v10, L) (jq (P := oP P) kq (Eq.trans (ob e10) (if_neg c11)))) ⟨(Nat.le_of_ble_eq_true rfl), (Nat.le_of_ble_eq_true rfl)⟩))
def F_X9_readLine_86 (I : WI) (L : WL)  (a1 : Int32) : Option (WI × WL) :=
  (F_X9_readLine_91 I L a1 1)
theorem V_X9_readLine_86  {I : WI} {L : WL}  {a1 : Int32} {P : (WI × WL) → Prop} {t : Tg} (hr : ∀ v, P v → t = (none, ly0, (p1 v), (p2 v), R0)) : oP P (F_X9_readLine_86 I L a1) → V (zM x_X9_readLine 6 0 0 t) 86 [(0, .ref 33), (1, .int a1)] [.ref 33] ly0 I L R0 0 0 :=
  fun _ =>
  have kq : (oP P (F_X9_readLine_86 I L a1)) ∧ True := ⟨by assumption, trivial⟩
  V_iconst (tat ok_X9_readLine_1 (i := 4) (q := 87) rfl rfl) ic_1 <|
    V_goto (tat ok_X9_readLine_1 (i := 5) (q := 90) rfl rfl) rfl <|
    V_X9_readLine_91 rfl hr (jq (P := oP P) kq rfl)
def F_X9_readLine_90 (I : WI) (L : WL)  (a1 : Int32) : Option (WI × WL) :=
  (F_X9_readLine_91 I L a1 0)
theorem V_X9_readLine_90  {I : WI} {L : WL}  {a1 : Int32} {P : (WI × WL) → Prop} {t : Tg} (hr : ∀ v, P v → t = (none, ly0, (p1 v), (p2 v), R0)) : oP P (F_X9_readLine_90 I L a1) → V (zM x_X9_readLine 6 0 0 t) 90 [(0, .ref 33), (1, .int a1)] [.ref 33] ly0 I L R0 0 0 :=
  fun _ =>
  have kq : (oP P (F_X9_readLine_90 I L a1)) ∧ True := ⟨by assumption, trivial⟩
  V_iconst (tat ok_X9_readLine_1 (i := 6) (q := 91) rfl rfl) ic_0 <|
    V_X9_readLine_91 rfl hr (jq (P := oP P) kq rfl)
def F_X9_readLine_73 (I : WI) (L : WL)  (a1 : Int32) : Option (WI × WL) :=
  (if a1 = 11 then (if (bz (I 33 17)) = 0 then (F_X9_readLine_86 I L a1) else (F_X9_readLine_90 I L a1)) else (F_X9_readLine_86 I L a1))
theorem V_X9_readLine_73  {I : WI} {L : WL}  {a1 : Int32} {P : (WI × WL) → Prop} {t : Tg} (hr : ∀ v, P v → t = (none, ly0, (p1 v), (p2 v), R0)) : oP P (F_X9_readLine_73 I L a1) → V (zM x_X9_readLine 6 0 0 t) 73 [(0, .ref 33), (1, .int a1)] [.ref 33] ly0 I L R0 0 0 :=
  fun _ =>
  have kq : (oP P (F_X9_readLine_73 I L a1)) ∧ True := ⟨by assumption, trivial⟩
  V_iload_n (tat ok_X9_readLine_0 (i := 38) (q := 74) rfl rfl) 1 rfl rfl <|
    V_bipush (tat ok_X9_readLine_0 (i := 39) (q := 76) rfl rfl) bp_11 <|
    V_icmp_ne (tat ok_X9_readLine_1 (i := 0) (q := 79) rfl rfl) rfl (fun c8 => V_X9_readLine_86  hr (jq (P := oP P) kq (if_neg c8))) (fun c8 => V_aload_n (tat ok_X9_readLine_1 (i := 1) (q := 80) rfl rfl) 0 rfl rfl <|
    V_getZ (tat ok_X9_readLine_1 (i := 2) (q := 83) rfl rfl) fk_X9_68 rfl <|
    V_if_ne (tat ok_X9_readLine_1 (i := 3) (q := 86) rfl rfl) rfl (fun c9 => V_X9_readLine_90  hr (jq (P := oP P) kq (Eq.trans (if_pos c8) (if_neg c9)))) (fun c9 => V_X9_readLine_86  hr (jq (P := oP P) kq (Eq.trans (if_pos c8) (if_pos c9)))))
def F_X9_readLine_55 (I : WI) (L : WL)  (a1 : Int32) (s0 : Int32) : Option (WI × WL) :=
  (if a1 = 10 then (if (bz ((F_X9_needs I s0 5) 33 16)) = 0 then (F_X9_readLine_73 (F_X9_needs I s0 5) L a1) else (F_X9_readLine_90 (F_X9_needs I s0 5) L a1)) else (F_X9_readLine_73 (F_X9_needs I s0 5) L a1))
theorem V_X9_readLine_55  {I : WI} {L : WL}  {a1 : Int32} {s0 : Int32} {P : (WI × WL) → Prop} {t : Tg} (hs0 : bz s0 = s0) (hr : ∀ v, P v → t = (none, ly0, (p1 v), (p2 v), R0)) : oP P (F_X9_readLine_55 I L a1 s0) → V (zM x_X9_readLine 6 0 0 t) 55 [(0, .ref 33), (1, .int a1)] [.int s0, .ref 33] ly0 I L R0 0 0 :=
  fun _ =>
  have kq : (oP P (F_X9_readLine_55 I L a1 s0)) ∧ True := ⟨by assumption, trivial⟩
  V_iconst (tat ok_X9_readLine_0 (i := 29) (q := 56) rfl rfl) ic_5 <|
    V_cv2v (ct_X9_needs I L s0 5 ) mo_X9_needs (tat ok_X9_readLine_0 (i := 30) (q := 59) rfl rfl) ml_X9_138 rfl ⟨by decide, _, rfl, rfl⟩ ⟨(Nat.le_of_ble_eq_true rfl), (Nat.le_of_ble_eq_true rfl)⟩ ⟨(Nat.le_of_ble_eq_true rfl), (Nat.le_of_ble_eq_true rfl)⟩ (Nat.le_of_ble_eq_true rfl) <|
    V_aload_n (tat ok_X9_readLine_0 (i := 31) (q := 60) rfl rfl) 0 rfl rfl <|
    V_iload_n (tat ok_X9_readLine_0 (i := 32) (q := 61) rfl rfl) 1 rfl rfl <|
    V_bipush (tat ok_X9_readLine_0 (i := 33) (q := 63) rfl rfl) bp_10 <|
    V_icmp_ne (tat ok_X9_readLine_0 (i := 34) (q := 66) rfl rfl) rfl (fun c6 => V_X9_readLine_73  hr (jq (P := oP P) kq (if_neg c6))) (fun c6 => V_aload_n (tat ok_X9_readLine_0 (i := 35) (q := 67) rfl rfl) 0 rfl rfl <|
    V_getZ (tat ok_X9_readLine_0 (i := 36) (q := 70) rfl rfl) fk_X9_64 rfl <|
    V_if_ne (tat ok_X9_readLine_0 (i := 37) (q := 73) rfl rfl) rfl (fun c7 => V_X9_readLine_90  hr (jq (P := oP P) kq (Eq.trans (if_pos c6) (if_neg c7)))) (fun c7 => V_X9_readLine_73  hr (jq (P := oP P) kq (Eq.trans (if_pos c6) (if_pos c7)))))
def F_X9_readLine_50 (I : WI) (L : WL)  (a1 : Int32) : Option (WI × WL) :=
  (F_X9_readLine_55 I L a1 1)
theorem V_X9_readLine_50  {I : WI} {L : WL}  {a1 : Int32} {P : (WI × WL) → Prop} {t : Tg} (hr : ∀ v, P v → t = (none, ly0, (p1 v), (p2 v), R0)) : oP P (F_X9_readLine_50 I L a1) → V (zM x_X9_readLine 6 0 0 t) 50 [(0, .ref 33), (1, .int a1)] [.ref 33] ly0 I L R0 0 0 :=
  fun _ =>
  have kq : (oP P (F_X9_readLine_50 I L a1)) ∧ True := ⟨by assumption, trivial⟩
  V_iconst (tat ok_X9_readLine_0 (i := 26) (q := 51) rfl rfl) ic_1 <|
    V_goto (tat ok_X9_readLine_0 (i := 27) (q := 54) rfl rfl) rfl <|
    V_X9_readLine_55 rfl hr (jq (P := oP P) kq rfl)
def F_X9_readLine_30 (I : WI) (L : WL)  (a1 : Int32) (s0 : Int32) : Option (WI × WL) :=
  (if a1 = 12 then (if 12 ≤ ((F_X9_needs I s0 2) 33 18) then (F_X9_readLine_55 (F_X9_needs I s0 2) L a1 0) else (F_X9_readLine_50 (F_X9_needs I s0 2) L a1)) else (F_X9_readLine_50 (F_X9_needs I s0 2) L a1))
theorem V_X9_readLine_30  {I : WI} {L : WL}  {a1 : Int32} {s0 : Int32} {P : (WI × WL) → Prop} {t : Tg} (hs0 : bz s0 = s0) (hr : ∀ v, P v → t = (none, ly0, (p1 v), (p2 v), R0)) : oP P (F_X9_readLine_30 I L a1 s0) → V (zM x_X9_readLine 6 0 0 t) 30 [(0, .ref 33), (1, .int a1)] [.int s0, .ref 33] ly0 I L R0 0 0 :=
  fun _ =>
  have kq : (oP P (F_X9_readLine_30 I L a1 s0)) ∧ True := ⟨by assumption, trivial⟩
  V_iconst (tat ok_X9_readLine_0 (i := 16) (q := 31) rfl rfl) ic_2 <|
    V_cv2v (ct_X9_needs I L s0 2 ) mo_X9_needs (tat ok_X9_readLine_0 (i := 17) (q := 34) rfl rfl) ml_X9_138 rfl ⟨by decide, _, rfl, rfl⟩ ⟨(Nat.le_of_ble_eq_true rfl), (Nat.le_of_ble_eq_true rfl)⟩ ⟨(Nat.le_of_ble_eq_true rfl), (Nat.le_of_ble_eq_true rfl)⟩ (Nat.le_of_ble_eq_true rfl) <|
    V_aload_n (tat ok_X9_readLine_0 (i := 18) (q := 35) rfl rfl) 0 rfl rfl <|
    V_iload_n (tat ok_X9_readLine_0 (i := 19) (q := 36) rfl rfl) 1 rfl rfl <|
    V_bipush (tat ok_X9_readLine_0 (i := 20) (q := 38) rfl rfl) bp_12 <|
    V_icmp_ne (tat ok_X9_readLine_0 (i := 21) (q := 41) rfl rfl) rfl (fun c4 => V_X9_readLine_50  hr (jq (P := oP P) kq (if_neg c4))) (fun c4 => V_aload_n (tat ok_X9_readLine_0 (i := 22) (q := 42) rfl rfl) 0 rfl rfl <|
    V_getI (tat ok_X9_readLine_0 (i := 23) (q := 45) rfl rfl) fk_X9_71 rfl <|
    V_bipush (tat ok_X9_readLine_0 (i := 24) (q := 47) rfl rfl) bp_12 <|
    V_icmp_ge (tat ok_X9_readLine_0 (i := 25) (q := 50) rfl rfl) rfl (fun c5 => V_iconst (tat ok_X9_readLine_0 (i := 28) (q := 55) rfl rfl) ic_0 <|
    V_X9_readLine_55 rfl hr (jq (P := oP P) kq (Eq.trans (if_pos c4) (if_pos c5)))) (fun c5 => V_X9_readLine_50  hr (jq (P := oP P) kq (Eq.trans (if_pos c4) (if_neg c5)))))
def F_X9_readLine_17 (I : WI) (L : WL)  (s0 : Int32) : Option (WI × WL) :=
  (if s0 = (-4) then (F_X9_readLine_30 I L s0 0) else (F_X9_readLine_30 I L s0 1))
theorem V_X9_readLine_17  {I : WI} {L : WL}  {s0 : Int32} {P : (WI × WL) → Prop} {t : Tg} (hr : ∀ v, P v → t = (none, ly0, (p1 v), (p2 v), R0)) : oP P (F_X9_readLine_17 I L s0) → V (zM x_X9_readLine 6 0 0 t) 17 [(0, .ref 33)] [.int s0] ly0 I L R0 0 0 :=
  fun _ =>
  have kq : (oP P (F_X9_readLine_17 I L s0)) ∧ True := ⟨by assumption, trivial⟩
  V_istore_n (lv' := [(1, .int s0), (0, .ref 33)]) (tat ok_X9_readLine_0 (i := 8) (q := 18) rfl rfl) rfl (Nat.le_of_ble_eq_true rfl) rfl <|
    V_aload_n (tat ok_X9_readLine_0 (i := 9) (q := 19) rfl rfl) 1 rfl rfl <|
    V_iload_n (tat ok_X9_readLine_0 (i := 10) (q := 20) rfl rfl) 0 rfl rfl <|
    V_bipush (tat ok_X9_readLine_0 (i := 11) (q := 22) rfl rfl) bp_m4 <|
    V_icmp_eq (tat ok_X9_readLine_0 (i := 12) (q := 25) rfl rfl) rfl (fun c3 => V_iconst (tat ok_X9_readLine_0 (i := 15) (q := 30) rfl rfl) ic_0 <|
    V_pick [1, 0] rfl (V_X9_readLine_30 rfl hr (jq (P := oP P) kq (if_pos c3)))) (fun c3 => V_iconst (tat ok_X9_readLine_0 (i := 13) (q := 26) rfl rfl) ic_1 <|
    V_goto (tat ok_X9_readLine_0 (i := 14) (q := 29) rfl rfl) rfl <|
    V_pick [1, 0] rfl (V_X9_readLine_30 rfl hr (jq (P := oP P) kq (if_neg c3))))
def F_X9_readLine (I : WI) (L : WL) : Option (WI × WL) :=
  (if (I 33 24) = 1 then (Option.bind (F_X9_lineNow I) (fun v2 => (F_X9_readLine_17 I L v2))) else (F_X9_readLine_17 I L (-4)))
theorem V_X9_readLine  {I : WI} {L : WL}   {P : (WI × WL) → Prop} {t : Tg} (hr : ∀ v, P v → t = (none, ly0, (p1 v), (p2 v), R0)) : oP P (F_X9_readLine I L) → V (zM x_X9_readLine 6 0 0 t) 0 [(0, .ref 33)] [] ly0 I L R0 0 0 :=
  fun _ =>
  have kq : (oP P (F_X9_readLine I L)) ∧ True := ⟨by assumption, trivial⟩
  V_aload_n (tat ok_X9_readLine_0 (i := 0) (q := 1) rfl rfl) 0 rfl rfl <|
    V_getI (tat ok_X9_readLine_0 (i := 1) (q := 4) rfl rfl) fk_X9_124 rfl <|
    V_iconst (tat ok_X9_readLine_0 (i := 2) (q := 5) rfl rfl) ic_1 <|
    V_icmp_ne (tat ok_X9_readLine_0 (i := 3) (q := 8) rfl rfl) rfl (fun c1 => V_bipush (tat ok_X9_readLine_0 (i := 7) (q := 17) rfl rfl) bp_m4 <|
    V_X9_readLine_17  hr (jq (P := oP P) kq (if_neg c1))) (fun c1 => V_aload_n (tat ok_X9_readLine_0 (i := 4) (q := 9) rfl rfl) 0 rfl rfl <|
    oP_case (jq (P := oP P) kq (if_pos c1)) (fun v2 e2 _ => V_cv0 (ct_X9_lineNow I L   e2) mo_X9_lineNow (tat ok_X9_readLine_0 (i := 5) (q := 12) rfl rfl) ml_X9_174 rfl ⟨by decide, _, rfl, rfl⟩ ⟨(Nat.le_of_ble_eq_true rfl), (Nat.le_of_ble_eq_true rfl)⟩ ⟨(Nat.le_of_ble_eq_true rfl), (Nat.le_of_ble_eq_true rfl)⟩ (Nat.le_of_ble_eq_true rfl) <|
    V_goto (tat ok_X9_readLine_0 (i := 6) (q := 15) rfl rfl) rfl <|
    V_X9_readLine_17  hr (jq (P := oP P) kq (Eq.trans (if_pos c1) (ob e2)))))
theorem ct_X9_readLine  (I : WI) (L : WL)  {v : (WI × WL)} (h : (F_X9_readLine I L) = some v) : Ct x_X9_readLine 6 [.ref 33] ly0 I L R0 0 0 (none, ly0, (p1 v), (p2 v), R0) :=
  Ct_of_V mo_X9_readLine.1 (Nat.le_of_ble_eq_true rfl) (V_X9_readLine (P := fun x => x = v)  (fun _ e => by rw [e]) (by rw [h]; exact rfl))
def F_X9_isActOf_55 (a0 : Int32) (a1 : Int32) (a2 : Int32) (a3 : Int32) (s0 : Int32) : Int32 :=
  s0
theorem V_X9_isActOf_55  {I : WI} {L : WL} {a0 : Int32} {a1 : Int32} {a2 : Int32} {a3 : Int32} {s0 : Int32} {P : Int32 → Prop} {t : Tg} (hs0 : bz s0 = s0) (hr : ∀ v, P v → t = (some (.int v), ly0, I, L, R0)) (kk : P (F_X9_isActOf_55 a0 a1 a2 a3 s0)) : V (zM x_X9_isActOf 2 0 0 t) 55 [(0, .int a0), (1, .int a1), (2, .int a2), (3, .int a3)] [.int s0] ly0 I L R0 0 0 :=
  V_iret (tat ok_X9_isActOf_0 (i := 35) (q := 56) rfl rfl) _ rfl (bz_nf hs0).1 (hr s0 (jx (P := P) kk rfl)) ⟨(Nat.le_of_ble_eq_true rfl), (Nat.le_of_ble_eq_true rfl)⟩
def F_X9_isActOf_54 (a0 : Int32) (a1 : Int32) (a2 : Int32) (a3 : Int32) : Int32 :=
  (F_X9_isActOf_55 a0 a1 a2 a3 0)
theorem V_X9_isActOf_54  {I : WI} {L : WL} {a0 : Int32} {a1 : Int32} {a2 : Int32} {a3 : Int32}  {P : Int32 → Prop} {t : Tg} (hr : ∀ v, P v → t = (some (.int v), ly0, I, L, R0)) (kk : P (F_X9_isActOf_54 a0 a1 a2 a3)) : V (zM x_X9_isActOf 2 0 0 t) 54 [(0, .int a0), (1, .int a1), (2, .int a2), (3, .int a3)] [] ly0 I L R0 0 0 :=
  V_iconst (tat ok_X9_isActOf_0 (i := 34) (q := 55) rfl rfl) ic_0 <|
    V_X9_isActOf_55 rfl hr (jx (P := P) kk rfl)
def F_X9_isActOf_44 (a0 : Int32) (a1 : Int32) (a2 : Int32) (a3 : Int32) (s0 : Int64) (s1 : Int64) (s2 : Int64) : Int32 :=
  (if (F_X9_in s2 s1 s0) = 0 then (F_X9_isActOf_54 a0 a1 a2 a3) else (F_X9_isActOf_55 a0 a1 a2 a3 1))
theorem V_X9_isActOf_44  {I : WI} {L : WL} {a0 : Int32} {a1 : Int32} {a2 : Int32} {a3 : Int32} {s0 : Int64} {s1 : Int64} {s2 : Int64} {P : Int32 → Prop} {t : Tg} (hr : ∀ v, P v → t = (some (.int v), ly0, I, L, R0)) (kk : P (F_X9_isActOf_44 a0 a1 a2 a3 s0 s1 s2)) : V (zM x_X9_isActOf 2 0 0 t) 44 [(0, .int a0), (1, .int a1), (2, .int a2), (3, .int a3)] [.long s0, .long s1, .long s2] ly0 I L R0 0 0 :=
  V_cs3 (ct_X9_in I L s2 s1 s0 ) mo_X9_in (tat ok_X9_isActOf_0 (i := 30) (q := 47) rfl rfl) ml_X9_97 ⟨(Nat.le_of_ble_eq_true rfl), (Nat.le_of_ble_eq_true rfl)⟩ ⟨(Nat.le_of_ble_eq_true rfl), (Nat.le_of_ble_eq_true rfl)⟩ (Nat.le_of_ble_eq_true rfl) <|
    V_if_eq (tat ok_X9_isActOf_0 (i := 31) (q := 50) rfl rfl) rfl (fun c3 => V_X9_isActOf_54  hr (jx (P := P) kk (if_pos c3))) (fun c3 => V_iconst (tat ok_X9_isActOf_0 (i := 32) (q := 51) rfl rfl) ic_1 <|
    V_goto (tat ok_X9_isActOf_0 (i := 33) (q := 54) rfl rfl) rfl <|
    V_X9_isActOf_55 rfl hr (jx (P := P) kk (if_neg c3)))
def F_X9_isActOf (a0 : Int32) (a1 : Int32) (a2 : Int32) (a3 : Int32) : Int32 :=
  (if (F_X9_in (Int32.toInt64 a0) 0 2) = 0 then (F_X9_isActOf_54 a0 a1 a2 a3) else (if a0 = 0 then (F_X9_isActOf_44 a0 a1 a2 a3 (Int32.toInt64 (a2 - 1)) 0 (Int32.toInt64 a1)) else (if a0 = 1 then (F_X9_isActOf_44 a0 a1 a2 a3 (Int32.toInt64 (a3 - 1)) 0 (Int32.toInt64 a1)) else (F_X9_isActOf_44 a0 a1 a2 a3 (Int32.toInt64 ((a2 + a3) - 2)) 0 (Int32.toInt64 a1)))))
theorem V_X9_isActOf  {I : WI} {L : WL} {a0 : Int32} {a1 : Int32} {a2 : Int32} {a3 : Int32}  {P : Int32 → Prop} {t : Tg} (hr : ∀ v, P v → t = (some (.int v), ly0, I, L, R0)) (kk : P (F_X9_isActOf a0 a1 a2 a3)) : V (zM x_X9_isActOf 2 0 0 t) 0 [(0, .int a0), (1, .int a1), (2, .int a2), (3, .int a3)] [] ly0 I L R0 0 0 :=
  V_iload_n (tat ok_X9_isActOf_0 (i := 0) (q := 1) rfl rfl) 0 rfl rfl <|
    V_i2l (tat ok_X9_isActOf_0 (i := 1) (q := 2) rfl rfl) <|
    V_lconst (v := 0) (tat ok_X9_isActOf_0 (i := 2) (q := 3) rfl rfl) rfl <|
    V_ldc2 (tat ok_X9_isActOf_0 (i := 3) (q := 6) rfl rfl) (gw_in kl_X9_189 rfl) <|
    V_cs3 (ct_X9_in I L (Int32.toInt64 a0) 0 2 ) mo_X9_in (tat ok_X9_isActOf_0 (i := 4) (q := 9) rfl rfl) ml_X9_97 ⟨(Nat.le_of_ble_eq_true rfl), (Nat.le_of_ble_eq_true rfl)⟩ ⟨(Nat.le_of_ble_eq_true rfl), (Nat.le_of_ble_eq_true rfl)⟩ (Nat.le_of_ble_eq_true rfl) <|
    V_if_eq (tat ok_X9_isActOf_0 (i := 5) (q := 12) rfl rfl) rfl (fun c1 => V_X9_isActOf_54  hr (jx (P := P) kk (if_pos c1))) (fun c1 => V_iload_n (tat ok_X9_isActOf_0 (i := 6) (q := 13) rfl rfl) 1 rfl rfl <|
    V_i2l (tat ok_X9_isActOf_0 (i := 7) (q := 14) rfl rfl) <|
    V_lconst (v := 0) (tat ok_X9_isActOf_0 (i := 8) (q := 15) rfl rfl) rfl <|
    V_iload_n (tat ok_X9_isActOf_0 (i := 9) (q := 16) rfl rfl) 0 rfl rfl <|
    V_if_ne (tat ok_X9_isActOf_0 (i := 10) (q := 19) rfl rfl) rfl (fun c2 => V_iload_n (tat ok_X9_isActOf_0 (i := 16) (q := 27) rfl rfl) 0 rfl rfl <|
    V_iconst (tat ok_X9_isActOf_0 (i := 17) (q := 28) rfl rfl) ic_1 <|
    V_icmp_ne (tat ok_X9_isActOf_0 (i := 18) (q := 31) rfl rfl) rfl (fun c4 => V_iload_n (tat ok_X9_isActOf_0 (i := 24) (q := 39) rfl rfl) 2 rfl rfl <|
    V_iload_n (tat ok_X9_isActOf_0 (i := 25) (q := 40) rfl rfl) 3 rfl rfl <|
    V_iadd (tat ok_X9_isActOf_0 (i := 26) (q := 41) rfl rfl) <|
    V_iconst (tat ok_X9_isActOf_0 (i := 27) (q := 42) rfl rfl) ic_2 <|
    V_isub (tat ok_X9_isActOf_0 (i := 28) (q := 43) rfl rfl) <|
    V_i2l (tat ok_X9_isActOf_0 (i := 29) (q := 44) rfl rfl) <|
    V_X9_isActOf_44  hr (jx (P := P) kk (Eq.trans (if_neg c1) (Eq.trans (if_neg c2) (if_neg c4))))) (fun c4 => V_iload_n (tat ok_X9_isActOf_0 (i := 19) (q := 32) rfl rfl) 3 rfl rfl <|
    V_iconst (tat ok_X9_isActOf_0 (i := 20) (q := 33) rfl rfl) ic_1 <|
    V_isub (tat ok_X9_isActOf_0 (i := 21) (q := 34) rfl rfl) <|
    V_i2l (tat ok_X9_isActOf_0 (i := 22) (q := 35) rfl rfl) <|
    V_goto (tat ok_X9_isActOf_0 (i := 23) (q := 38) rfl rfl) rfl <|
    V_X9_isActOf_44  hr (jx (P := P) kk (Eq.trans (if_neg c1) (Eq.trans (if_neg c2) (if_pos c4)))))) (fun c2 => V_iload_n (tat ok_X9_isActOf_0 (i := 11) (q := 20) rfl rfl) 2 rfl rfl <|
    V_iconst (tat ok_X9_isActOf_0 (i := 12) (q := 21) rfl rfl) ic_1 <|
    V_isub (tat ok_X9_isActOf_0 (i := 13) (q := 22) rfl rfl) <|
    V_i2l (tat ok_X9_isActOf_0 (i := 14) (q := 23) rfl rfl) <|
    V_goto (tat ok_X9_isActOf_0 (i := 15) (q := 26) rfl rfl) rfl <|
    V_X9_isActOf_44  hr (jx (P := P) kk (Eq.trans (if_neg c1) (if_pos c2)))))
theorem ct_X9_isActOf  (I : WI) (L : WL) (a0 : Int32) (a1 : Int32) (a2 : Int32) (a3 : Int32)  : Ct x_X9_isActOf 2 [.int a0, .int a1, .int a2, .int a3] ly0 I L R0 0 0 (some (.int (F_X9_isActOf a0 a1 a2 a3)), ly0, I, L, R0) :=
  Ct_of_V mo_X9_isActOf.1 (Nat.le_of_ble_eq_true rfl) (V_X9_isActOf (P := fun x => x = (F_X9_isActOf a0 a1 a2 a3))  (fun _ e => by rw [e]) rfl)
def F_X9_areActs_75_2 (I : WI) (a2 : Int32) (a3 : Int32) (s0 : Int32) : Option (Int32 ⊕ (Int32 × Int32)) :=
  some (.inr (s0, (a3 + 1)))
theorem V_X9_areActs_75_2  {I : WI} {L : WL} {a2 : Int32} {a3 : Int32} {s0 : Int32} {P : (Int32 ⊕ (Int32 × Int32)) → Prop} {t : Tg} (hs0 : bz s0 = s0) (he : ∀ x : Int32, P (.inl x) → V (zM x_X9_areActs 3 0 0 t) 82 [(0, .ref 33), (1, .int x), (2, .int a2)] [] ly0 I L R0 0 0) (hk : ∀ x : (Int32 × Int32), P (.inr x) → V (zM x_X9_areActs 3 0 0 t) 14 [(0, .ref 33), (1, .int (p1 x)), (2, .int a2), (3, .int (p2 x))] [] ly0 I L R0 0 0) : oP P (F_X9_areActs_75_2 I a2 a3 s0) → V (zM x_X9_areActs 3 0 0 t) 75 [(0, .ref 33), (2, .int a2), (3, .int a3)] [.int s0] ly0 I L R0 0 0 :=
  fun _ =>
  have kq : (oP P (F_X9_areActs_75_2 I a2 a3 s0)) ∧ True := ⟨by assumption, trivial⟩
  V_istore_n (lv' := [(1, .int s0), (0, .ref 33), (2, .int a2), (3, .int a3)]) (tat ok_X9_areActs_1 (i := 9) (q := 76) rfl rfl) rfl (Nat.le_of_ble_eq_true rfl) rfl <|
    V_iinc (v := (a3 + 1)) (lv' := [(3, .int (a3 + 1)), (1, .int s0), (0, .ref 33), (2, .int a2)]) (tat ok_X9_areActs_1 (i := 10) (q := 79) rfl rfl) 3 rfl (ia ic_1) (Nat.le_of_ble_eq_true rfl) rfl <|
    V_goto (tat ok_X9_areActs_1 (i := 11) (q := 82) rfl rfl) rfl <|
    V_pick [2, 1, 3, 0] rfl (hk (s0, (a3 + 1)) (jq (P := oP P) kq rfl))
def F_X9_areActs_74_2 (I : WI) (a2 : Int32) (a3 : Int32) : Option (Int32 ⊕ (Int32 × Int32)) :=
  (F_X9_areActs_75_2 I a2 a3 0)
theorem V_X9_areActs_74_2  {I : WI} {L : WL} {a2 : Int32} {a3 : Int32} {P : (Int32 ⊕ (Int32 × Int32)) → Prop} {t : Tg} (he : ∀ x : Int32, P (.inl x) → V (zM x_X9_areActs 3 0 0 t) 82 [(0, .ref 33), (1, .int x), (2, .int a2)] [] ly0 I L R0 0 0) (hk : ∀ x : (Int32 × Int32), P (.inr x) → V (zM x_X9_areActs 3 0 0 t) 14 [(0, .ref 33), (1, .int (p1 x)), (2, .int a2), (3, .int (p2 x))] [] ly0 I L R0 0 0) : oP P (F_X9_areActs_74_2 I a2 a3) → V (zM x_X9_areActs 3 0 0 t) 74 [(0, .ref 33), (2, .int a2), (3, .int a3)] [] ly0 I L R0 0 0 :=
  fun _ =>
  have kq : (oP P (F_X9_areActs_74_2 I a2 a3)) ∧ True := ⟨by assumption, trivial⟩
  V_iconst (tat ok_X9_areActs_1 (i := 8) (q := 75) rfl rfl) ic_0 <|
    V_X9_areActs_75_2 rfl he hk (jq (P := oP P) kq rfl)
def F_X9_areActs_14_2 (I : WI) (a2 : Int32) (a1 : Int32) (a3 : Int32) : Option (Int32 ⊕ (Int32 × Int32)) :=
  (if (4 * a2) < 0 ∨ 48 ≤ Int32.toNatClampNeg (4 * a2) then none else (if (I 38 (Int32.toNatClampNeg (4 * a2))) < a3 then some (.inl a1) else (if a1 = 0 then (F_X9_areActs_74_2 I a2 a3) else (if ((4 * a2) + a3) < 0 ∨ 48 ≤ Int32.toNatClampNeg ((4 * a2) + a3) then none else (if ((4 * a2) + a3) < 0 ∨ 48 ≤ Int32.toNatClampNeg ((4 * a2) + a3) then none else (if (F_X9_isActOf ((I 38 (Int32.toNatClampNeg ((4 * a2) + a3))) / 20) ((I 38 (Int32.toNatClampNeg ((4 * a2) + a3))) - (I 38 (Int32.toNatClampNeg ((4 * a2) + a3))) / 20 * 20) (I 33 10) (I 33 11)) = 0 then (F_X9_areActs_74_2 I a2 a3) else (F_X9_areActs_75_2 I a2 a3 1)))))))
theorem V_X9_areActs_14_2  {I : WI} {L : WL} {a2 : Int32} {a1 : Int32} {a3 : Int32} {P : (Int32 ⊕ (Int32 × Int32)) → Prop} {t : Tg} (he : ∀ x : Int32, P (.inl x) → V (zM x_X9_areActs 3 0 0 t) 82 [(0, .ref 33), (1, .int x), (2, .int a2)] [] ly0 I L R0 0 0) (hk : ∀ x : (Int32 × Int32), P (.inr x) → V (zM x_X9_areActs 3 0 0 t) 14 [(0, .ref 33), (1, .int (p1 x)), (2, .int a2), (3, .int (p2 x))] [] ly0 I L R0 0 0) : oP P (F_X9_areActs_14_2 I a2 a1 a3) → V (zM x_X9_areActs 3 0 0 t) 14 [(0, .ref 33), (1, .int a1), (2, .int a2), (3, .int a3)] [] ly0 I L R0 0 0 :=
  fun _ =>
  have kq : (oP P (F_X9_areActs_14_2 I a2 a1 a3)) ∧ True := ⟨by assumption, trivial⟩
  V_iload_n (tat ok_X9_areActs_0 (i := 10) (q := 15) rfl rfl) 3 rfl rfl <|
    V_aload_n (tat ok_X9_areActs_0 (i := 11) (q := 16) rfl rfl) 0 rfl rfl <|
    V_getR (tat ok_X9_areActs_0 (i := 12) (q := 19) rfl rfl) fk_X9_23 rfl rfl <|
    V_iconst (tat ok_X9_areActs_0 (i := 13) (q := 20) rfl rfl) ic_4 <|
    V_iload_n (tat ok_X9_areActs_0 (i := 14) (q := 21) rfl rfl) 2 rfl rfl <|
    V_imul (tat ok_X9_areActs_0 (i := 15) (q := 22) rfl rfl) <|
    (if c1 : (4 * a2) < 0 ∨ 48 ≤ Int32.toNatClampNeg (4 * a2) then ((jq (P := oP P) kq (if_pos c1))).elim else V_iald (tat ok_X9_areActs_0 (i := 16) (q := 23) rfl rfl) rfl c1 <|
    V_icmp_gt (tat ok_X9_areActs_0 (i := 17) (q := 26) rfl rfl) rfl (fun c2 => V_pick [0, 1, 2] rfl (he a1 (jq (P := oP P) kq (Eq.trans (if_neg c1) (if_pos c2))))) (fun c2 => V_iload_n (tat ok_X9_areActs_0 (i := 18) (q := 27) rfl rfl) 1 rfl rfl <|
    V_if_eq (tat ok_X9_areActs_0 (i := 19) (q := 30) rfl rfl) rfl (fun c3 => V_pick [0, 2, 3] rfl (V_X9_areActs_74_2  he hk (jq (P := oP P) kq (Eq.trans (if_neg c1) (Eq.trans (if_neg c2) (if_pos c3)))))) (fun c3 => V_aload_n (tat ok_X9_areActs_0 (i := 20) (q := 31) rfl rfl) 0 rfl rfl <|
    V_getR (tat ok_X9_areActs_0 (i := 21) (q := 34) rfl rfl) fk_X9_23 rfl rfl <|
    V_iconst (tat ok_X9_areActs_0 (i := 22) (q := 35) rfl rfl) ic_4 <|
    V_iload_n (tat ok_X9_areActs_0 (i := 23) (q := 36) rfl rfl) 2 rfl rfl <|
    V_imul (tat ok_X9_areActs_0 (i := 24) (q := 37) rfl rfl) <|
    V_iload_n (tat ok_X9_areActs_0 (i := 25) (q := 38) rfl rfl) 3 rfl rfl <|
    V_iadd (tat ok_X9_areActs_0 (i := 26) (q := 39) rfl rfl) <|
    (if c4 : ((4 * a2) + a3) < 0 ∨ 48 ≤ Int32.toNatClampNeg ((4 * a2) + a3) then ((jq (P := oP P) kq (Eq.trans (if_neg c1) (Eq.trans (if_neg c2) (Eq.trans (if_neg c3) (if_pos c4)))))).elim else V_iald (tat ok_X9_areActs_0 (i := 27) (q := 40) rfl rfl) rfl c4 <|
    V_bipush (tat ok_X9_areActs_0 (i := 28) (q := 42) rfl rfl) bp_20 <|
    V_idiv (tat ok_X9_areActs_0 (i := 29) (q := 43) rfl rfl) (by decide) <|
    V_aload_n (tat ok_X9_areActs_0 (i := 30) (q := 44) rfl rfl) 0 rfl rfl <|
    V_getR (tat ok_X9_areActs_0 (i := 31) (q := 47) rfl rfl) fk_X9_23 rfl rfl <|
    V_iconst (tat ok_X9_areActs_0 (i := 32) (q := 48) rfl rfl) ic_4 <|
    V_iload_n (tat ok_X9_areActs_0 (i := 33) (q := 49) rfl rfl) 2 rfl rfl <|
    V_imul (tat ok_X9_areActs_0 (i := 34) (q := 50) rfl rfl) <|
    V_iload_n (tat ok_X9_areActs_0 (i := 35) (q := 51) rfl rfl) 3 rfl rfl <|
    V_iadd (tat ok_X9_areActs_0 (i := 36) (q := 52) rfl rfl) <|
    (if c5 : ((4 * a2) + a3) < 0 ∨ 48 ≤ Int32.toNatClampNeg ((4 * a2) + a3) then ((jq (P := oP P) kq (Eq.trans (if_neg c1) (Eq.trans (if_neg c2) (Eq.trans (if_neg c3) (Eq.trans (if_neg c4) (if_pos c5))))))).elim else V_iald (tat ok_X9_areActs_0 (i := 37) (q := 53) rfl rfl) rfl c5 <|
    V_bipush (tat ok_X9_areActs_0 (i := 38) (q := 55) rfl rfl) bp_20 <|
    V_irem (tat ok_X9_areActs_0 (i := 39) (q := 56) rfl rfl) (by decide) <|
    V_aload_n (tat ok_X9_areActs_1 (i := 0) (q := 57) rfl rfl) 0 rfl rfl <|
    V_getI (tat ok_X9_areActs_1 (i := 1) (q := 60) rfl rfl) fk_X9_50 rfl <|
    V_aload_n (tat ok_X9_areActs_1 (i := 2) (q := 61) rfl rfl) 0 rfl rfl <|
    V_getI (tat ok_X9_areActs_1 (i := 3) (q := 64) rfl rfl) fk_X9_54 rfl <|
    V_cs4 (ct_X9_isActOf I L ((I 38 (Int32.toNatClampNeg ((4 * a2) + a3))) / 20) ((I 38 (Int32.toNatClampNeg ((4 * a2) + a3))) - (I 38 (Int32.toNatClampNeg ((4 * a2) + a3))) / 20 * 20) (I 33 10) (I 33 11) ) mo_X9_isActOf (tat ok_X9_areActs_1 (i := 4) (q := 67) rfl rfl) ml_X9_191 ⟨(Nat.le_of_ble_eq_true rfl), (Nat.le_of_ble_eq_true rfl)⟩ ⟨(Nat.le_of_ble_eq_true rfl), (Nat.le_of_ble_eq_true rfl)⟩ (Nat.le_of_ble_eq_true rfl) <|
    V_if_eq (tat ok_X9_areActs_1 (i := 5) (q := 70) rfl rfl) rfl (fun c6 => V_pick [0, 2, 3] rfl (V_X9_areActs_74_2  he hk (jq (P := oP P) kq (Eq.trans (if_neg c1) (Eq.trans (if_neg c2) (Eq.trans (if_neg c3) (Eq.trans (if_neg c4) (Eq.trans (if_neg c5) (if_pos c6))))))))) (fun c6 => V_iconst (tat ok_X9_areActs_1 (i := 6) (q := 71) rfl rfl) ic_1 <|
    V_goto (tat ok_X9_areActs_1 (i := 7) (q := 74) rfl rfl) rfl <|
    V_pick [0, 2, 3] rfl (V_X9_areActs_75_2 rfl he hk (jq (P := oP P) kq (Eq.trans (if_neg c1) (Eq.trans (if_neg c2) (Eq.trans (if_neg c3) (Eq.trans (if_neg c4) (Eq.trans (if_neg c5) (if_neg c6))))))))))))))
def F_X9_areActs_82_1 (I : WI) (a2 : Int32) (a1 : Int32) : Option Int32 :=
  some a1
theorem V_X9_areActs_82_1  {I : WI} {L : WL} {a2 : Int32} {a1 : Int32} {P : Int32 → Prop} {t : Tg} (hk : ∀ x : Int32, P x → V (zM x_X9_areActs 3 0 0 t) 4 [(0, .ref 33), (1, .int x), (2, .int (a2 + 1))] [] ly0 I L R0 0 0) : oP P (F_X9_areActs_82_1 I a2 a1) → V (zM x_X9_areActs 3 0 0 t) 82 [(0, .ref 33), (1, .int a1), (2, .int a2)] [] ly0 I L R0 0 0 :=
  fun _ =>
  have kq : (oP P (F_X9_areActs_82_1 I a2 a1)) ∧ True := ⟨by assumption, trivial⟩
  V_iinc (v := (a2 + 1)) (lv' := [(2, .int (a2 + 1)), (0, .ref 33), (1, .int a1)]) (tat ok_X9_areActs_1 (i := 12) (q := 85) rfl rfl) 2 rfl (ia ic_1) (Nat.le_of_ble_eq_true rfl) rfl <|
    V_goto (tat ok_X9_areActs_1 (i := 13) (q := 88) rfl rfl) rfl <|
    V_pick [1, 2, 0] rfl (hk a1 (jq (P := oP P) kq rfl))
def F_X9_areActs_14_1 (I : WI) (a2 : Int32) (a1 : Int32) (a3 : Int32) : Option Int32 :=
  (lpp (fun x => (F_X9_areActs_14_2 I a2 (p1 x) (p2 x))) 4294967296 (a1, a3)).bind (fun q => (F_X9_areActs_82_1 I a2 q))
theorem V_X9_areActs_14_1  {I : WI} {L : WL} {a2 : Int32} {a1 : Int32} {a3 : Int32} {P : Int32 → Prop} {t : Tg} (hb3 : bz a3 = a3) (hk : ∀ x : Int32, P x → V (zM x_X9_areActs 3 0 0 t) 4 [(0, .ref 33), (1, .int x), (2, .int (a2 + 1))] [] ly0 I L R0 0 0) (kk : oP P (F_X9_areActs_14_1 I a2 a1 a3)) : V (zM x_X9_areActs 3 0 0 t) 14 [(0, .ref 33), (1, .int a1), (2, .int a2), (3, .int a3)] [] ly0 I L R0 0 0 :=
  V_lpp (fun x => (F_X9_areActs_14_2 I a2 (p1 x) (p2 x))) (fun x => V (zM x_X9_areActs 3 0 0 t) 14 [(0, .ref 33), (1, .int (p1 x)), (2, .int a2), (3, .int (p2 x))] [] ly0 I L R0 0 0) (fun x => oP P ((F_X9_areActs_82_1 I a2 x))) (s := (a1, a3)) (fun x e0 => V_X9_areActs_14_2 (P := Sum.elim (fun x => oP P ((F_X9_areActs_82_1 I a2 x))) (fun x => V (zM x_X9_areActs 3 0 0 t) 14 [(0, .ref 33), (1, .int (p1 x)), (2, .int a2), (3, .int (p2 x))] [] ly0 I L R0 0 0))  (fun x e => V_X9_areActs_82_1  hk e) (fun _ e => e) e0) (oP_bind (f := fun q => _) kk)
def F_X9_areActs_12_1 (I : WI) (a2 : Int32) (a1 : Int32) : Option Int32 :=
  (F_X9_areActs_14_1 I a2 a1 1)
theorem V_X9_areActs_12_1  {I : WI} {L : WL} {a2 : Int32} {a1 : Int32} {P : Int32 → Prop} {t : Tg} (hk : ∀ x : Int32, P x → V (zM x_X9_areActs 3 0 0 t) 4 [(0, .ref 33), (1, .int x), (2, .int (a2 + 1))] [] ly0 I L R0 0 0) : oP P (F_X9_areActs_12_1 I a2 a1) → V (zM x_X9_areActs 3 0 0 t) 12 [(0, .ref 33), (1, .int a1), (2, .int a2)] [] ly0 I L R0 0 0 :=
  fun _ =>
  have kq : (oP P (F_X9_areActs_12_1 I a2 a1)) ∧ True := ⟨by assumption, trivial⟩
  V_iconst (tat ok_X9_areActs_0 (i := 8) (q := 13) rfl rfl) ic_1 <|
    V_istore_n (lv' := [(3, .int 1), (0, .ref 33), (1, .int a1), (2, .int a2)]) (tat ok_X9_areActs_0 (i := 9) (q := 14) rfl rfl) rfl (Nat.le_of_ble_eq_true rfl) rfl <|
    V_pick [1, 2, 3, 0] rfl (V_X9_areActs_14_1 rfl hk (jq (P := oP P) kq rfl))
def F_X9_areActs_88 (I : WI)  (a1 : Int32) : Option Int32 :=
  (if bz a1 = a1 then some a1 else none)
theorem V_X9_areActs_88  {I : WI} {L : WL}  {a1 : Int32} {P : Int32 → Prop} {t : Tg} (hr : ∀ v, P v → t = (some (.int v), ly0, I, L, R0)) : oP P (F_X9_areActs_88 I a1) → V (zM x_X9_areActs 3 0 0 t) 88 [(0, .ref 33), (1, .int a1)] [] ly0 I L R0 0 0 :=
  fun _ =>
  have kq : (oP P (F_X9_areActs_88 I a1)) ∧ True := ⟨by assumption, trivial⟩
  V_iload_n (tat ok_X9_areActs_1 (i := 14) (q := 89) rfl rfl) 1 rfl rfl <|
    (if c7 : bz a1 = a1 then V_iret (tat ok_X9_areActs_1 (i := 15) (q := 90) rfl rfl) _ rfl (bz_nf c7).1 (hr a1 (jq (P := oP P) kq (if_pos c7))) ⟨(Nat.le_of_ble_eq_true rfl), (Nat.le_of_ble_eq_true rfl)⟩ else ((jq (P := oP P) kq (if_neg c7))).elim)
def F_X9_areActs_4 (I : WI)  (a1 : Int32) (a2 : Int32) : Option Int32 :=
  (frp0 (fun i x => (F_X9_areActs_12_1 I i x)) (I 33 18) (fu a2 (I 33 18)) a2 a1).bind (fun q => (F_X9_areActs_88 I (p2 q)))
theorem V_X9_areActs_4  {I : WI} {L : WL}  {a1 : Int32} {a2 : Int32} {P : Int32 → Prop} {t : Tg} (hb1 : bz a1 = a1) (hb2 : bz a2 = a2) (hr : ∀ v, P v → t = (some (.int v), ly0, I, L, R0)) (kk : oP P (F_X9_areActs_4 I a1 a2)) : V (zM x_X9_areActs 3 0 0 t) 4 [(0, .ref 33), (1, .int a1), (2, .int a2)] [] ly0 I L R0 0 0 :=
  V_frp0 (fun i x => (F_X9_areActs_12_1 I i x)) (I 33 18) (fun i x => V (zM x_X9_areActs 3 0 0 t) 4 [(0, .ref 33), (1, .int x), (2, .int i)] [] ly0 I L R0 0 0) (fun i x => oP P ((F_X9_areActs_88 I x))) (c := a2) (s := a1) (fun i x kx kb => V_iload_n (tat ok_X9_areActs_0 (i := 4) (q := 5) rfl rfl) 2 rfl rfl <|
    V_aload_n (tat ok_X9_areActs_0 (i := 5) (q := 6) rfl rfl) 0 rfl rfl <|
    V_getI (tat ok_X9_areActs_0 (i := 6) (q := 9) rfl rfl) fk_X9_71 rfl <|
    V_icmp_ge (tat ok_X9_areActs_0 (i := 7) (q := 12) rfl rfl) rfl (fun c0 => V_pick [0, 1] rfl (V_X9_areActs_88  hr (kx c0))) (fun c0 => V_X9_areActs_12_1 (P := (fun x => (fun i x => V (zM x_X9_areActs 3 0 0 t) 4 [(0, .ref 33), (1, .int x), (2, .int i)] [] ly0 I L R0 0 0) (i + 1) x))  (fun _ e => e) (kb c0))) (oP_bind (f := fun q => _) kk)
def F_X9_areActs (I : WI) : Option Int32 :=
  (F_X9_areActs_4 I 1 0)
theorem V_X9_areActs  {I : WI} {L : WL}   {P : Int32 → Prop} {t : Tg} (hr : ∀ v, P v → t = (some (.int v), ly0, I, L, R0)) : oP P (F_X9_areActs I) → V (zM x_X9_areActs 3 0 0 t) 0 [(0, .ref 33)] [] ly0 I L R0 0 0 :=
  fun _ =>
  have kq : (oP P (F_X9_areActs I)) ∧ True := ⟨by assumption, trivial⟩
  V_iconst (tat ok_X9_areActs_0 (i := 0) (q := 1) rfl rfl) ic_1 <|
    V_istore_n (lv' := [(1, .int 1), (0, .ref 33)]) (tat ok_X9_areActs_0 (i := 1) (q := 2) rfl rfl) rfl (Nat.le_of_ble_eq_true rfl) rfl <|
    V_iconst (tat ok_X9_areActs_0 (i := 2) (q := 3) rfl rfl) ic_0 <|
    V_istore_n (lv' := [(2, .int 0), (1, .int 1), (0, .ref 33)]) (tat ok_X9_areActs_0 (i := 3) (q := 4) rfl rfl) rfl (Nat.le_of_ble_eq_true rfl) rfl <|
    V_pick [2, 1, 0] rfl (V_X9_areActs_4 rfl rfl hr (jq (P := oP P) kq rfl))
theorem ct_X9_areActs  (I : WI) (L : WL)  {v : Int32} (h : (F_X9_areActs I) = some v) : Ct x_X9_areActs 3 [.ref 33] ly0 I L R0 0 0 (some (.int v), ly0, I, L, R0) :=
  Ct_of_V mo_X9_areActs.1 (Nat.le_of_ble_eq_true rfl) (V_X9_areActs (P := fun x => x = v)  (fun _ e => by rw [e]) (by rw [h]; exact rfl))
def F_X9_text_20_1 (I : WI) (L : WL)  (a1 : Int32) : Option ((Int32 × WI × WL) ⊕ (Int32 × WI × WL)) :=
  (if (I 33 26) = 0 then (if (I 33 24) = 0 then some (.inl (a1, I, L)) else (Option.bind (F_X9_readLine I L) (fun v4 => some (.inr ((a1 + 1), (p1 v4), (p2 v4)))))) else some (.inl (a1, I, L)))
theorem V_X9_text_20_1  {I : WI} {L : WL}  {a1 : Int32} {P : ((Int32 × WI × WL) ⊕ (Int32 × WI × WL)) → Prop} {t : Tg} (he : ∀ x : (Int32 × WI × WL), P (.inl x) → V (zM x_X9_text 7 0 0 t) 44 [(0, .ref 33), (1, .int (p1 x))] [] ly0 (p1 (p2 x)) (p2 (p2 x)) R0 0 0) (hk : ∀ x : (Int32 × WI × WL), P (.inr x) → V (zM x_X9_text 7 0 0 t) 20 [(0, .ref 33), (1, .int (p1 x))] [] ly0 (p1 (p2 x)) (p2 (p2 x)) R0 0 0) : oP P (F_X9_text_20_1 I L a1) → V (zM x_X9_text 7 0 0 t) 20 [(0, .ref 33), (1, .int a1)] [] ly0 I L R0 0 0 :=
  fun _ =>
  have kq : (oP P (F_X9_text_20_1 I L a1)) ∧ True := ⟨by assumption, trivial⟩
  V_aload_n (tat ok_X9_text_0 (i := 12) (q := 21) rfl rfl) 0 rfl rfl <|
    V_getI (tat ok_X9_text_0 (i := 13) (q := 24) rfl rfl) fk_X9_101 rfl <|
    V_if_ne (tat ok_X9_text_0 (i := 14) (q := 27) rfl rfl) rfl (fun c2 => he (a1, I, L) (jq (P := oP P) kq (if_neg c2))) (fun c2 => V_aload_n (tat ok_X9_text_0 (i := 15) (q := 28) rfl rfl) 0 rfl rfl <|
    V_getI (tat ok_X9_text_0 (i := 16) (q := 31) rfl rfl) fk_X9_124 rfl <|
    V_if_eq (tat ok_X9_text_0 (i := 17) (q := 34) rfl rfl) rfl (fun c3 => he (a1, I, L) (jq (P := oP P) kq (Eq.trans (if_pos c2) (if_pos c3)))) (fun c3 => V_aload_n (tat ok_X9_text_0 (i := 18) (q := 35) rfl rfl) 0 rfl rfl <|
    oP_case (jq (P := oP P) kq (Eq.trans (if_pos c2) (if_neg c3))) (fun v4 e4 _ => V_cv0v (ct_X9_readLine I L   e4) mo_X9_readLine (tat ok_X9_text_0 (i := 19) (q := 38) rfl rfl) ml_X9_194 rfl ⟨by decide, _, rfl, rfl⟩ ⟨(Nat.le_of_ble_eq_true rfl), (Nat.le_of_ble_eq_true rfl)⟩ ⟨(Nat.le_of_ble_eq_true rfl), (Nat.le_of_ble_eq_true rfl)⟩ (Nat.le_of_ble_eq_true rfl) <|
    V_iinc (v := (a1 + 1)) (lv' := [(1, .int (a1 + 1)), (0, .ref 33)]) (tat ok_X9_text_0 (i := 20) (q := 41) rfl rfl) 1 rfl (ia ic_1) (Nat.le_of_ble_eq_true rfl) rfl <|
    V_goto (tat ok_X9_text_0 (i := 21) (q := 44) rfl rfl) rfl <|
    V_pick [1, 0] rfl (hk ((a1 + 1), (p1 v4), (p2 v4)) (jq (P := oP P) kq (Eq.trans (if_pos c2) (Eq.trans (if_neg c3) (ob e4))))))))
def F_X9_text_101 (I : WI) (L : WL)  (a1 : Int32) : Option (Int32 × WI × WL) :=
  (if ((u2 I 33 21 0) 33 26) ≤ 0 then (Option.bind (F_X9_keepDraft (u2 I 33 21 0) L) (fun v9 => some (a1, (p1 v9), (p2 v9)))) else some (((-10) - ((u2 I 33 21 0) 33 27)), (u2 I 33 21 0), L))
theorem V_X9_text_101  {I : WI} {L : WL}  {a1 : Int32} {P : (Int32 × WI × WL) → Prop} {t : Tg} (hr : ∀ v, P v → t = (some (.int (p1 v)), ly0, (p1 (p2 v)), (p2 (p2 v)), R0)) : oP P (F_X9_text_101 I L a1) → V (zM x_X9_text 7 0 0 t) 101 [(0, .ref 33), (1, .int a1)] [] ly0 I L R0 0 0 :=
  fun _ =>
  have kq : (oP P (F_X9_text_101 I L a1)) ∧ True := ⟨by assumption, trivial⟩
  V_aload_n (tat ok_X9_text_1 (i := 9) (q := 102) rfl rfl) 0 rfl rfl <|
    V_iconst (tat ok_X9_text_1 (i := 10) (q := 103) rfl rfl) ic_0 <|
    V_putI (tat ok_X9_text_1 (i := 11) (q := 106) rfl rfl) fk_X9_92 rfl rfl <|
    V_aload_n (tat ok_X9_text_1 (i := 12) (q := 107) rfl rfl) 0 rfl rfl <|
    V_getI (tat ok_X9_text_1 (i := 13) (q := 110) rfl rfl) fk_X9_101 rfl <|
    V_if_le (tat ok_X9_text_1 (i := 14) (q := 113) rfl rfl) rfl (fun c8 => V_aload_n (tat ok_X9_text_1 (i := 20) (q := 122) rfl rfl) 0 rfl rfl <|
    oP_case (jq (P := oP P) kq (if_pos c8)) (fun v9 e9 _ => V_cv0v (ct_X9_keepDraft (u2 I 33 21 0) L   e9) mo_X9_keepDraft (tat ok_X9_text_1 (i := 21) (q := 125) rfl rfl) ml_X9_47 rfl ⟨by decide, _, rfl, rfl⟩ ⟨(Nat.le_of_ble_eq_true rfl), (Nat.le_of_ble_eq_true rfl)⟩ ⟨(Nat.le_of_ble_eq_true rfl), (Nat.le_of_ble_eq_true rfl)⟩ (Nat.le_of_ble_eq_true rfl) <|
    V_iload_n (tat ok_X9_text_1 (i := 22) (q := 126) rfl rfl) 1 rfl rfl <|
    V_iret (tat ok_X9_text_1 (i := 23) (q := 127) rfl rfl) _ rfl (nar_int _) (hr (a1, (p1 v9), (p2 v9)) (jq (P := oP P) kq (Eq.trans (if_pos c8) (ob e9)))) ⟨(Nat.le_of_ble_eq_true rfl), (Nat.le_of_ble_eq_true rfl)⟩)) (fun c8 => V_bipush (tat ok_X9_text_1 (i := 15) (q := 115) rfl rfl) bp_m10 <|
    V_aload_n (tat ok_X9_text_1 (i := 16) (q := 116) rfl rfl) 0 rfl rfl <|
    V_getI (tat ok_X9_text_1 (i := 17) (q := 119) rfl rfl) fk_X9_107 rfl <|
    V_isub (tat ok_X9_text_1 (i := 18) (q := 120) rfl rfl) <|
    V_iret (tat ok_X9_text_1 (i := 19) (q := 121) rfl rfl) _ rfl (nar_int _) (hr (((-10) - ((u2 I 33 21 0) 33 27)), (u2 I 33 21 0), L) (jq (P := oP P) kq (if_neg c8))) ⟨(Nat.le_of_ble_eq_true rfl), (Nat.le_of_ble_eq_true rfl)⟩)
def F_X9_text_86 (I : WI) (L : WL)  (a1 : Int32) (s0 : Int32) : Option (Int32 × WI × WL) :=
  (Option.bind (F_X9_areActs (F_X9_needs I s0 6)) (fun v7 => (F_X9_text_101 (F_X9_needs (F_X9_needs I s0 6) v7 7) L a1)))
theorem V_X9_text_86  {I : WI} {L : WL}  {a1 : Int32} {s0 : Int32} {P : (Int32 × WI × WL) → Prop} {t : Tg} (hs0 : bz s0 = s0) (hr : ∀ v, P v → t = (some (.int (p1 v)), ly0, (p1 (p2 v)), (p2 (p2 v)), R0)) : oP P (F_X9_text_86 I L a1 s0) → V (zM x_X9_text 7 0 0 t) 86 [(0, .ref 33), (1, .int a1)] [.int s0, .ref 33] ly0 I L R0 0 0 :=
  fun _ =>
  have kq : (oP P (F_X9_text_86 I L a1 s0)) ∧ True := ⟨by assumption, trivial⟩
  V_bipush (tat ok_X9_text_1 (i := 2) (q := 88) rfl rfl) bp_6 <|
    V_cv2v (ct_X9_needs I L s0 6 ) mo_X9_needs (tat ok_X9_text_1 (i := 3) (q := 91) rfl rfl) ml_X9_138 rfl ⟨by decide, _, rfl, rfl⟩ ⟨(Nat.le_of_ble_eq_true rfl), (Nat.le_of_ble_eq_true rfl)⟩ ⟨(Nat.le_of_ble_eq_true rfl), (Nat.le_of_ble_eq_true rfl)⟩ (Nat.le_of_ble_eq_true rfl) <|
    V_aload_n (tat ok_X9_text_1 (i := 4) (q := 92) rfl rfl) 0 rfl rfl <|
    V_aload_n (tat ok_X9_text_1 (i := 5) (q := 93) rfl rfl) 0 rfl rfl <|
    oP_case (jq (P := oP P) kq rfl) (fun v7 e7 _ => V_cv0 (ct_X9_areActs (F_X9_needs I s0 6) L   e7) mo_X9_areActs (tat ok_X9_text_1 (i := 6) (q := 96) rfl rfl) ml_X9_197 rfl ⟨by decide, _, rfl, rfl⟩ ⟨(Nat.le_of_ble_eq_true rfl), (Nat.le_of_ble_eq_true rfl)⟩ ⟨(Nat.le_of_ble_eq_true rfl), (Nat.le_of_ble_eq_true rfl)⟩ (Nat.le_of_ble_eq_true rfl) <|
    V_bipush (tat ok_X9_text_1 (i := 7) (q := 98) rfl rfl) bp_7 <|
    V_cv2v (ct_X9_needs (F_X9_needs I s0 6) L v7 7 ) mo_X9_needs (tat ok_X9_text_1 (i := 8) (q := 101) rfl rfl) ml_X9_138 rfl ⟨by decide, _, rfl, rfl⟩ ⟨(Nat.le_of_ble_eq_true rfl), (Nat.le_of_ble_eq_true rfl)⟩ ⟨(Nat.le_of_ble_eq_true rfl), (Nat.le_of_ble_eq_true rfl)⟩ (Nat.le_of_ble_eq_true rfl) <|
    V_X9_text_101  hr (jq (P := oP P) kq (ob e7)))
def F_X9_text_81 (I : WI) (L : WL)  (a1 : Int32) : Option (Int32 × WI × WL) :=
  (F_X9_text_86 I L a1 1)
theorem V_X9_text_81  {I : WI} {L : WL}  {a1 : Int32} {P : (Int32 × WI × WL) → Prop} {t : Tg} (hr : ∀ v, P v → t = (some (.int (p1 v)), ly0, (p1 (p2 v)), (p2 (p2 v)), R0)) : oP P (F_X9_text_81 I L a1) → V (zM x_X9_text 7 0 0 t) 81 [(0, .ref 33), (1, .int a1)] [.ref 33] ly0 I L R0 0 0 :=
  fun _ =>
  have kq : (oP P (F_X9_text_81 I L a1)) ∧ True := ⟨by assumption, trivial⟩
  V_iconst (tat ok_X9_text_0 (i := 39) (q := 82) rfl rfl) ic_1 <|
    V_goto (tat ok_X9_text_1 (i := 0) (q := 85) rfl rfl) rfl <|
    V_X9_text_86 rfl hr (jq (P := oP P) kq rfl)
def F_X9_text_85 (I : WI) (L : WL)  (a1 : Int32) : Option (Int32 × WI × WL) :=
  (F_X9_text_86 I L a1 0)
theorem V_X9_text_85  {I : WI} {L : WL}  {a1 : Int32} {P : (Int32 × WI × WL) → Prop} {t : Tg} (hr : ∀ v, P v → t = (some (.int (p1 v)), ly0, (p1 (p2 v)), (p2 (p2 v)), R0)) : oP P (F_X9_text_85 I L a1) → V (zM x_X9_text 7 0 0 t) 85 [(0, .ref 33), (1, .int a1)] [.ref 33] ly0 I L R0 0 0 :=
  fun _ =>
  have kq : (oP P (F_X9_text_85 I L a1)) ∧ True := ⟨by assumption, trivial⟩
  V_iconst (tat ok_X9_text_1 (i := 1) (q := 86) rfl rfl) ic_0 <|
    V_X9_text_86 rfl hr (jq (P := oP P) kq rfl)
def F_X9_text_44 (I : WI) (L : WL)  (a1 : Int32) : Option (Int32 × WI × WL) :=
  (if (I 33 26) = 0 then (if (bz (I 33 17)) = 0 then (F_X9_text_81 I L a1) else (if (I 33 13) = (I 33 10) then (if (I 33 14) = (I 33 11) then (F_X9_text_81 I L a1) else (F_X9_text_85 I L a1)) else (F_X9_text_85 I L a1))) else (F_X9_text_101 I L a1))
theorem V_X9_text_44  {I : WI} {L : WL}  {a1 : Int32} {P : (Int32 × WI × WL) → Prop} {t : Tg} (hr : ∀ v, P v → t = (some (.int (p1 v)), ly0, (p1 (p2 v)), (p2 (p2 v)), R0)) : oP P (F_X9_text_44 I L a1) → V (zM x_X9_text 7 0 0 t) 44 [(0, .ref 33), (1, .int a1)] [] ly0 I L R0 0 0 :=
  fun _ =>
  have kq : (oP P (F_X9_text_44 I L a1)) ∧ True := ⟨by assumption, trivial⟩
  V_aload_n (tat ok_X9_text_0 (i := 22) (q := 45) rfl rfl) 0 rfl rfl <|
    V_getI (tat ok_X9_text_0 (i := 23) (q := 48) rfl rfl) fk_X9_101 rfl <|
    V_if_ne (tat ok_X9_text_0 (i := 24) (q := 51) rfl rfl) rfl (fun c5 => V_X9_text_101  hr (jq (P := oP P) kq (if_neg c5))) (fun c5 => V_aload_n (tat ok_X9_text_0 (i := 25) (q := 52) rfl rfl) 0 rfl rfl <|
    V_aload_n (tat ok_X9_text_0 (i := 26) (q := 53) rfl rfl) 0 rfl rfl <|
    V_getZ (tat ok_X9_text_0 (i := 27) (q := 56) rfl rfl) fk_X9_68 rfl <|
    V_if_eq (tat ok_X9_text_0 (i := 28) (q := 59) rfl rfl) rfl (fun c6 => V_X9_text_81  hr (jq (P := oP P) kq (Eq.trans (if_pos c5) (if_pos c6)))) (fun c6 => V_aload_n (tat ok_X9_text_0 (i := 29) (q := 60) rfl rfl) 0 rfl rfl <|
    V_getI (tat ok_X9_text_0 (i := 30) (q := 63) rfl rfl) fk_X9_183 rfl <|
    V_aload_n (tat ok_X9_text_0 (i := 31) (q := 64) rfl rfl) 0 rfl rfl <|
    V_getI (tat ok_X9_text_0 (i := 32) (q := 67) rfl rfl) fk_X9_50 rfl <|
    V_icmp_ne (tat ok_X9_text_0 (i := 33) (q := 70) rfl rfl) rfl (fun c10 => V_X9_text_85  hr (jq (P := oP P) kq (Eq.trans (if_pos c5) (Eq.trans (if_neg c6) (if_neg c10))))) (fun c10 => V_aload_n (tat ok_X9_text_0 (i := 34) (q := 71) rfl rfl) 0 rfl rfl <|
    V_getI (tat ok_X9_text_0 (i := 35) (q := 74) rfl rfl) fk_X9_186 rfl <|
    V_aload_n (tat ok_X9_text_0 (i := 36) (q := 75) rfl rfl) 0 rfl rfl <|
    V_getI (tat ok_X9_text_0 (i := 37) (q := 78) rfl rfl) fk_X9_54 rfl <|
    V_icmp_ne (tat ok_X9_text_0 (i := 38) (q := 81) rfl rfl) rfl (fun c11 => V_X9_text_85  hr (jq (P := oP P) kq (Eq.trans (if_pos c5) (Eq.trans (if_neg c6) (Eq.trans (if_pos c10) (if_neg c11)))))) (fun c11 => V_X9_text_81  hr (jq (P := oP P) kq (Eq.trans (if_pos c5) (Eq.trans (if_neg c6) (Eq.trans (if_pos c10) (if_pos c11)))))))))
def F_X9_text_20 (I : WI) (L : WL)  (a1 : Int32) : Option (Int32 × WI × WL) :=
  (lpp (fun x => (F_X9_text_20_1 (p1 (p2 x)) (p2 (p2 x)) (p1 x))) 4294967296 (a1, I, L)).bind (fun q => (F_X9_text_44 (p1 (p2 q)) (p2 (p2 q)) (p1 q)))
theorem V_X9_text_20  {I : WI} {L : WL}  {a1 : Int32} {P : (Int32 × WI × WL) → Prop} {t : Tg} (hb1 : bz a1 = a1) (hr : ∀ v, P v → t = (some (.int (p1 v)), ly0, (p1 (p2 v)), (p2 (p2 v)), R0)) (kk : oP P (F_X9_text_20 I L a1)) : V (zM x_X9_text 7 0 0 t) 20 [(0, .ref 33), (1, .int a1)] [] ly0 I L R0 0 0 :=
  V_lpp (fun x => (F_X9_text_20_1 (p1 (p2 x)) (p2 (p2 x)) (p1 x))) (fun x => V (zM x_X9_text 7 0 0 t) 20 [(0, .ref 33), (1, .int (p1 x))] [] ly0 (p1 (p2 x)) (p2 (p2 x)) R0 0 0) (fun x => oP P ((F_X9_text_44 (p1 (p2 x)) (p2 (p2 x)) (p1 x)))) (s := (a1, I, L)) (fun x e0 => V_X9_text_20_1 (P := Sum.elim (fun x => oP P ((F_X9_text_44 (p1 (p2 x)) (p2 (p2 x)) (p1 x)))) (fun x => V (zM x_X9_text 7 0 0 t) 20 [(0, .ref 33), (1, .int (p1 x))] [] ly0 (p1 (p2 x)) (p2 (p2 x)) R0 0 0))  (fun x e => V_X9_text_44  hr e) (fun _ e => e) e0) (oP_bind (f := fun q => _) kk)
def F_X9_text (I : WI) (L : WL) : Option (Int32 × WI × WL) :=
  (Option.bind (F_X9_next (p1 (F_X9_firstDraft (u2 (u2 I 33 26 0) 33 22 0) L))) (fun v1 => (F_X9_text_20 v1 (p2 (F_X9_firstDraft (u2 (u2 I 33 26 0) 33 22 0) L)) 0)))
theorem V_X9_text  {I : WI} {L : WL}   {P : (Int32 × WI × WL) → Prop} {t : Tg} (hr : ∀ v, P v → t = (some (.int (p1 v)), ly0, (p1 (p2 v)), (p2 (p2 v)), R0)) : oP P (F_X9_text I L) → V (zM x_X9_text 7 0 0 t) 0 [(0, .ref 33)] [] ly0 I L R0 0 0 :=
  fun _ =>
  have kq : (oP P (F_X9_text I L)) ∧ True := ⟨by assumption, trivial⟩
  V_iconst (tat ok_X9_text_0 (i := 0) (q := 1) rfl rfl) ic_0 <|
    V_istore_n (lv' := [(1, .int 0), (0, .ref 33)]) (tat ok_X9_text_0 (i := 1) (q := 2) rfl rfl) rfl (Nat.le_of_ble_eq_true rfl) rfl <|
    V_aload_n (tat ok_X9_text_0 (i := 2) (q := 3) rfl rfl) 1 rfl rfl <|
    V_iconst (tat ok_X9_text_0 (i := 3) (q := 4) rfl rfl) ic_0 <|
    V_putI (tat ok_X9_text_0 (i := 4) (q := 7) rfl rfl) fk_X9_101 rfl rfl <|
    V_aload_n (tat ok_X9_text_0 (i := 5) (q := 8) rfl rfl) 1 rfl rfl <|
    V_iconst (tat ok_X9_text_0 (i := 6) (q := 9) rfl rfl) ic_0 <|
    V_putI (tat ok_X9_text_0 (i := 7) (q := 12) rfl rfl) fk_X9_110 rfl rfl <|
    V_aload_n (tat ok_X9_text_0 (i := 8) (q := 13) rfl rfl) 1 rfl rfl <|
    V_cv0v (ct_X9_firstDraft (u2 (u2 I 33 26 0) 33 22 0) L  ) mo_X9_firstDraft (tat ok_X9_text_0 (i := 9) (q := 16) rfl rfl) ml_X9_44 rfl ⟨by decide, _, rfl, rfl⟩ ⟨(Nat.le_of_ble_eq_true rfl), (Nat.le_of_ble_eq_true rfl)⟩ ⟨(Nat.le_of_ble_eq_true rfl), (Nat.le_of_ble_eq_true rfl)⟩ (Nat.le_of_ble_eq_true rfl) <|
    V_aload_n (tat ok_X9_text_0 (i := 10) (q := 17) rfl rfl) 1 rfl rfl <|
    oP_case (jq (P := oP P) kq rfl) (fun v1 e1 _ => V_cv0v (ct_X9_next (p1 (F_X9_firstDraft (u2 (u2 I 33 26 0) 33 22 0) L)) (p2 (F_X9_firstDraft (u2 (u2 I 33 26 0) 33 22 0) L))   e1) mo_X9_next (tat ok_X9_text_0 (i := 11) (q := 20) rfl rfl) ml_X9_159 rfl ⟨by decide, _, rfl, rfl⟩ ⟨(Nat.le_of_ble_eq_true rfl), (Nat.le_of_ble_eq_true rfl)⟩ ⟨(Nat.le_of_ble_eq_true rfl), (Nat.le_of_ble_eq_true rfl)⟩ (Nat.le_of_ble_eq_true rfl) <|
    V_pick [1, 0] rfl (V_X9_text_20 rfl hr (jq (P := oP P) kq (ob e1))))
theorem ct_X9_text  (I : WI) (L : WL)  {v : (Int32 × WI × WL)} (h : (F_X9_text I L) = some v) : Ct x_X9_text 7 [.ref 33] ly0 I L R0 0 0 (some (.int (p1 v)), ly0, (p1 (p2 v)), (p2 (p2 v)), R0) :=
  Ct_of_V mo_X9_text.1 (Nat.le_of_ble_eq_true rfl) (V_X9_text (P := fun x => x = v)  (fun _ e => by rw [e]) (by rw [h]; exact rfl))
def F_X9_fault (I : WI) : Int32 :=
  (I 33 26)
theorem V_X9_fault  {I : WI} {L : WL}   {P : Int32 → Prop} {t : Tg} (hr : ∀ v, P v → t = (some (.int v), ly0, I, L, R0)) (kk : P (F_X9_fault I)) : V (zM x_X9_fault 1 0 0 t) 0 [(0, .ref 33)] [] ly0 I L R0 0 0 :=
  V_aload_n (tat ok_X9_fault_0 (i := 0) (q := 1) rfl rfl) 0 rfl rfl <|
    V_getI (tat ok_X9_fault_0 (i := 1) (q := 4) rfl rfl) fk_X9_101 rfl <|
    V_iret (tat ok_X9_fault_0 (i := 2) (q := 5) rfl rfl) _ rfl (nar_int _) (hr (I 33 26) (jx (P := P) kk rfl)) ⟨(Nat.le_of_ble_eq_true rfl), (Nat.le_of_ble_eq_true rfl)⟩
theorem ct_X9_fault  (I : WI) (L : WL)  : Ct x_X9_fault 1 [.ref 33] ly0 I L R0 0 0 (some (.int (F_X9_fault I)), ly0, I, L, R0) :=
  Ct_of_V mo_X9_fault.1 (Nat.le_of_ble_eq_true rfl) (V_X9_fault (P := fun x => x = (F_X9_fault I))  (fun _ e => by rw [e]) rfl)
def F_X9_rule (I : WI) (a1 : Int32) : Int32 :=
  (if a1 = 0 then (I 33 0) else (if a1 = 1 then (I 33 1) else (if a1 = 2 then (F_X9_flag (bz (I 33 4))) else (if a1 = 3 then (I 33 5) else (if a1 = 4 then (((I 33 0) + (I 33 1)) - 1) else (-1))))))
theorem V_X9_rule  {I : WI} {L : WL} {a1 : Int32}  {P : Int32 → Prop} {t : Tg} (hr : ∀ v, P v → t = (some (.int v), ly0, I, L, R0)) (kk : P (F_X9_rule I a1)) : V (zM x_X9_rule 2 0 0 t) 0 [(0, .ref 33), (1, .int a1)] [] ly0 I L R0 0 0 :=
  V_iload_n (tat ok_X9_rule_0 (i := 0) (q := 1) rfl rfl) 1 rfl rfl <|
    (if c1 : a1 = 0 then V_tswJ (tgt := 36) (off := 35) 0 (tat ok_X9_rule_0 (i := 1) (q := 36) rfl rfl) (swj c1) ⟨rfl, by decide⟩ rfl (V_aload_n (tat ok_X9_rule_0 (i := 2) (q := 37) rfl rfl) 0 rfl rfl <|
    V_getI (tat ok_X9_rule_0 (i := 3) (q := 40) rfl rfl) fk_X9_74 rfl <|
    V_iret (tat ok_X9_rule_0 (i := 4) (q := 41) rfl rfl) _ rfl (nar_int _) (hr (I 33 0) (jx (P := P) kk (if_pos c1))) ⟨(Nat.le_of_ble_eq_true rfl), (Nat.le_of_ble_eq_true rfl)⟩) else (if c2 : a1 = 1 then V_tswJ (tgt := 41) (off := 40) 1 (tat ok_X9_rule_0 (i := 1) (q := 36) rfl rfl) (swj c2) ⟨rfl, by decide⟩ rfl (V_aload_n (tat ok_X9_rule_0 (i := 5) (q := 42) rfl rfl) 0 rfl rfl <|
    V_getI (tat ok_X9_rule_0 (i := 6) (q := 45) rfl rfl) fk_X9_77 rfl <|
    V_iret (tat ok_X9_rule_0 (i := 7) (q := 46) rfl rfl) _ rfl (nar_int _) (hr (I 33 1) (jx (P := P) kk (Eq.trans (if_neg c1) (if_pos c2)))) ⟨(Nat.le_of_ble_eq_true rfl), (Nat.le_of_ble_eq_true rfl)⟩) else (if c3 : a1 = 2 then V_tswJ (tgt := 46) (off := 45) 2 (tat ok_X9_rule_0 (i := 1) (q := 36) rfl rfl) (swj c3) ⟨rfl, by decide⟩ rfl (V_aload_n (tat ok_X9_rule_0 (i := 8) (q := 47) rfl rfl) 0 rfl rfl <|
    V_getZ (tat ok_X9_rule_0 (i := 9) (q := 50) rfl rfl) fk_X9_86 rfl <|
    V_cs1 (ct_X9_flag I L (bz (I 33 4)) ) mo_X9_flag (tat ok_X9_rule_0 (i := 10) (q := 53) rfl rfl) ml_X9_200 ⟨(Nat.le_of_ble_eq_true rfl), (Nat.le_of_ble_eq_true rfl)⟩ ⟨(Nat.le_of_ble_eq_true rfl), (Nat.le_of_ble_eq_true rfl)⟩ (Nat.le_of_ble_eq_true rfl) <|
    V_iret (tat ok_X9_rule_0 (i := 11) (q := 54) rfl rfl) _ rfl (nar_int _) (hr (F_X9_flag (bz (I 33 4))) (jx (P := P) kk (Eq.trans (if_neg c1) (Eq.trans (if_neg c2) (if_pos c3))))) ⟨(Nat.le_of_ble_eq_true rfl), (Nat.le_of_ble_eq_true rfl)⟩) else (if c4 : a1 = 3 then V_tswJ (tgt := 54) (off := 53) 3 (tat ok_X9_rule_0 (i := 1) (q := 36) rfl rfl) (swj c4) ⟨rfl, by decide⟩ rfl (V_aload_n (tat ok_X9_rule_0 (i := 12) (q := 55) rfl rfl) 0 rfl rfl <|
    V_getI (tat ok_X9_rule_0 (i := 13) (q := 58) rfl rfl) fk_X9_89 rfl <|
    V_iret (tat ok_X9_rule_0 (i := 14) (q := 59) rfl rfl) _ rfl (nar_int _) (hr (I 33 5) (jx (P := P) kk (Eq.trans (if_neg c1) (Eq.trans (if_neg c2) (Eq.trans (if_neg c3) (if_pos c4)))))) ⟨(Nat.le_of_ble_eq_true rfl), (Nat.le_of_ble_eq_true rfl)⟩) else (if c5 : a1 = 4 then V_tswJ (tgt := 59) (off := 58) 4 (tat ok_X9_rule_0 (i := 1) (q := 36) rfl rfl) (swj c5) ⟨rfl, by decide⟩ rfl (V_aload_n (tat ok_X9_rule_0 (i := 15) (q := 60) rfl rfl) 0 rfl rfl <|
    V_getI (tat ok_X9_rule_0 (i := 16) (q := 63) rfl rfl) fk_X9_74 rfl <|
    V_aload_n (tat ok_X9_rule_0 (i := 17) (q := 64) rfl rfl) 0 rfl rfl <|
    V_getI (tat ok_X9_rule_0 (i := 18) (q := 67) rfl rfl) fk_X9_77 rfl <|
    V_iadd (tat ok_X9_rule_0 (i := 19) (q := 68) rfl rfl) <|
    V_iconst (tat ok_X9_rule_0 (i := 20) (q := 69) rfl rfl) ic_1 <|
    V_isub (tat ok_X9_rule_0 (i := 21) (q := 70) rfl rfl) <|
    V_iret (tat ok_X9_rule_0 (i := 22) (q := 71) rfl rfl) _ rfl (nar_int _) (hr (((I 33 0) + (I 33 1)) - 1) (jx (P := P) kk (Eq.trans (if_neg c1) (Eq.trans (if_neg c2) (Eq.trans (if_neg c3) (Eq.trans (if_neg c4) (if_pos c5))))))) ⟨(Nat.le_of_ble_eq_true rfl), (Nat.le_of_ble_eq_true rfl)⟩) else V_tswD (tgt := 71) (tat ok_X9_rule_0 (i := 1) (q := 36) rfl rfl) (sw5 c1 c2 c3 c4 c5) rfl (V_iconst (tat ok_X9_rule_0 (i := 23) (q := 72) rfl rfl) ic_m1 <|
    V_iret (tat ok_X9_rule_0 (i := 24) (q := 73) rfl rfl) _ rfl (nar_int _) (hr (-1) (jx (P := P) kk (Eq.trans (if_neg c1) (Eq.trans (if_neg c2) (Eq.trans (if_neg c3) (Eq.trans (if_neg c4) (if_neg c5))))))) ⟨(Nat.le_of_ble_eq_true rfl), (Nat.le_of_ble_eq_true rfl)⟩))))))
theorem ct_X9_rule  (I : WI) (L : WL) (a1 : Int32)  : Ct x_X9_rule 2 [.ref 33, .int a1] ly0 I L R0 0 0 (some (.int (F_X9_rule I a1)), ly0, I, L, R0) :=
  Ct_of_V mo_X9_rule.1 (Nat.le_of_ble_eq_true rfl) (V_X9_rule (P := fun x => x = (F_X9_rule I a1))  (fun _ e => by rw [e]) rfl)
def F_X9_day_54 (I : WI) (a1 : Int32) (a2 : Int32) (s0 : Int32) : Option Int32 :=
  some s0
theorem V_X9_day_54  {I : WI} {L : WL} {a1 : Int32} {a2 : Int32} {s0 : Int32} {P : Int32 → Prop} {t : Tg} (hr : ∀ v, P v → t = (some (.int v), ly0, I, L, R0)) : oP P (F_X9_day_54 I a1 a2 s0) → V (zM x_X9_day 2 0 0 t) 54 [(0, .ref 33), (1, .int a1), (2, .int a2)] [.int s0] ly0 I L R0 0 0 :=
  fun _ =>
  have kq : (oP P (F_X9_day_54 I a1 a2 s0)) ∧ True := ⟨by assumption, trivial⟩
  V_iret (tat ok_X9_day_0 (i := 36) (q := 55) rfl rfl) _ rfl (nar_int _) (hr s0 (jq (P := oP P) kq rfl)) ⟨(Nat.le_of_ble_eq_true rfl), (Nat.le_of_ble_eq_true rfl)⟩
def F_X9_day_38 (I : WI) (a1 : Int32) (a2 : Int32) : Option Int32 :=
  (F_X9_day_54 I a1 a2 (-1))
theorem V_X9_day_38  {I : WI} {L : WL} {a1 : Int32} {a2 : Int32}  {P : Int32 → Prop} {t : Tg} (hr : ∀ v, P v → t = (some (.int v), ly0, I, L, R0)) : oP P (F_X9_day_38 I a1 a2) → V (zM x_X9_day 2 0 0 t) 38 [(0, .ref 33), (1, .int a1), (2, .int a2)] [] ly0 I L R0 0 0 :=
  fun _ =>
  have kq : (oP P (F_X9_day_38 I a1 a2)) ∧ True := ⟨by assumption, trivial⟩
  V_iconst (tat ok_X9_day_0 (i := 24) (q := 39) rfl rfl) ic_m1 <|
    V_goto (tat ok_X9_day_0 (i := 25) (q := 42) rfl rfl) rfl <|
    V_X9_day_54  hr (jq (P := oP P) kq rfl)
def F_X9_day (I : WI) (a1 : Int32) (a2 : Int32) : Option Int32 :=
  (if (F_X9_in (Int32.toInt64 a1) 0 (Int32.toInt64 ((I 33 5) - 1))) = 0 then (F_X9_day_38 I a1 a2) else (if (4 * a1) < 0 ∨ 48 ≤ Int32.toNatClampNeg (4 * a1) then none else (if (F_X9_in (Int32.toInt64 a2) (-1) (Int32.toInt64 ((I 34 (Int32.toNatClampNeg (4 * a1))) - 1))) = 0 then (F_X9_day_38 I a1 a2) else (if (((4 * a1) + a2) + 1) < 0 ∨ 48 ≤ Int32.toNatClampNeg (((4 * a1) + a2) + 1) then none else (F_X9_day_54 I a1 a2 (I 34 (Int32.toNatClampNeg (((4 * a1) + a2) + 1))))))))
theorem V_X9_day  {I : WI} {L : WL} {a1 : Int32} {a2 : Int32}  {P : Int32 → Prop} {t : Tg} (hr : ∀ v, P v → t = (some (.int v), ly0, I, L, R0)) : oP P (F_X9_day I a1 a2) → V (zM x_X9_day 2 0 0 t) 0 [(0, .ref 33), (1, .int a1), (2, .int a2)] [] ly0 I L R0 0 0 :=
  fun _ =>
  have kq : (oP P (F_X9_day I a1 a2)) ∧ True := ⟨by assumption, trivial⟩
  V_iload_n (tat ok_X9_day_0 (i := 0) (q := 1) rfl rfl) 1 rfl rfl <|
    V_i2l (tat ok_X9_day_0 (i := 1) (q := 2) rfl rfl) <|
    V_lconst (v := 0) (tat ok_X9_day_0 (i := 2) (q := 3) rfl rfl) rfl <|
    V_aload_n (tat ok_X9_day_0 (i := 3) (q := 4) rfl rfl) 0 rfl rfl <|
    V_getI (tat ok_X9_day_0 (i := 4) (q := 7) rfl rfl) fk_X9_89 rfl <|
    V_iconst (tat ok_X9_day_0 (i := 5) (q := 8) rfl rfl) ic_1 <|
    V_isub (tat ok_X9_day_0 (i := 6) (q := 9) rfl rfl) <|
    V_i2l (tat ok_X9_day_0 (i := 7) (q := 10) rfl rfl) <|
    V_cs3 (ct_X9_in I L (Int32.toInt64 a1) 0 (Int32.toInt64 ((I 33 5) - 1)) ) mo_X9_in (tat ok_X9_day_0 (i := 8) (q := 13) rfl rfl) ml_X9_97 ⟨(Nat.le_of_ble_eq_true rfl), (Nat.le_of_ble_eq_true rfl)⟩ ⟨(Nat.le_of_ble_eq_true rfl), (Nat.le_of_ble_eq_true rfl)⟩ (Nat.le_of_ble_eq_true rfl) <|
    V_if_eq (tat ok_X9_day_0 (i := 9) (q := 16) rfl rfl) rfl (fun c1 => V_X9_day_38  hr (jq (P := oP P) kq (if_pos c1))) (fun c1 => V_iload_n (tat ok_X9_day_0 (i := 10) (q := 17) rfl rfl) 2 rfl rfl <|
    V_i2l (tat ok_X9_day_0 (i := 11) (q := 18) rfl rfl) <|
    V_ldc2 (tat ok_X9_day_0 (i := 12) (q := 21) rfl rfl) (gw_in kl_X9_204 rfl) <|
    V_aload_n (tat ok_X9_day_0 (i := 13) (q := 22) rfl rfl) 0 rfl rfl <|
    V_getR (tat ok_X9_day_0 (i := 14) (q := 25) rfl rfl) fk_X9_7 rfl rfl <|
    V_iconst (tat ok_X9_day_0 (i := 15) (q := 26) rfl rfl) ic_4 <|
    V_iload_n (tat ok_X9_day_0 (i := 16) (q := 27) rfl rfl) 1 rfl rfl <|
    V_imul (tat ok_X9_day_0 (i := 17) (q := 28) rfl rfl) <|
    (if c2 : (4 * a1) < 0 ∨ 48 ≤ Int32.toNatClampNeg (4 * a1) then ((jq (P := oP P) kq (Eq.trans (if_neg c1) (if_pos c2)))).elim else V_iald (tat ok_X9_day_0 (i := 18) (q := 29) rfl rfl) rfl c2 <|
    V_iconst (tat ok_X9_day_0 (i := 19) (q := 30) rfl rfl) ic_1 <|
    V_isub (tat ok_X9_day_0 (i := 20) (q := 31) rfl rfl) <|
    V_i2l (tat ok_X9_day_0 (i := 21) (q := 32) rfl rfl) <|
    V_cs3 (ct_X9_in I L (Int32.toInt64 a2) (-1) (Int32.toInt64 ((I 34 (Int32.toNatClampNeg (4 * a1))) - 1)) ) mo_X9_in (tat ok_X9_day_0 (i := 22) (q := 35) rfl rfl) ml_X9_97 ⟨(Nat.le_of_ble_eq_true rfl), (Nat.le_of_ble_eq_true rfl)⟩ ⟨(Nat.le_of_ble_eq_true rfl), (Nat.le_of_ble_eq_true rfl)⟩ (Nat.le_of_ble_eq_true rfl) <|
    V_if_ne (tat ok_X9_day_0 (i := 23) (q := 38) rfl rfl) rfl (fun c3 => V_aload_n (tat ok_X9_day_0 (i := 26) (q := 43) rfl rfl) 0 rfl rfl <|
    V_getR (tat ok_X9_day_0 (i := 27) (q := 46) rfl rfl) fk_X9_7 rfl rfl <|
    V_iconst (tat ok_X9_day_0 (i := 28) (q := 47) rfl rfl) ic_4 <|
    V_iload_n (tat ok_X9_day_0 (i := 29) (q := 48) rfl rfl) 1 rfl rfl <|
    V_imul (tat ok_X9_day_0 (i := 30) (q := 49) rfl rfl) <|
    V_iload_n (tat ok_X9_day_0 (i := 31) (q := 50) rfl rfl) 2 rfl rfl <|
    V_iadd (tat ok_X9_day_0 (i := 32) (q := 51) rfl rfl) <|
    V_iconst (tat ok_X9_day_0 (i := 33) (q := 52) rfl rfl) ic_1 <|
    V_iadd (tat ok_X9_day_0 (i := 34) (q := 53) rfl rfl) <|
    (if c4 : (((4 * a1) + a2) + 1) < 0 ∨ 48 ≤ Int32.toNatClampNeg (((4 * a1) + a2) + 1) then ((jq (P := oP P) kq (Eq.trans (if_neg c1) (Eq.trans (if_neg c2) (Eq.trans (if_neg c3) (if_pos c4)))))).elim else V_iald (tat ok_X9_day_0 (i := 35) (q := 54) rfl rfl) rfl c4 <|
    V_X9_day_54  hr (jq (P := oP P) kq (Eq.trans (if_neg c1) (Eq.trans (if_neg c2) (Eq.trans (if_neg c3) (if_neg c4))))))) (fun c3 => V_X9_day_38  hr (jq (P := oP P) kq (Eq.trans (if_neg c1) (Eq.trans (if_neg c2) (if_pos c3)))))))
theorem ct_X9_day  (I : WI) (L : WL) (a1 : Int32) (a2 : Int32)  {v : Int32} (h : (F_X9_day I a1 a2) = some v) : Ct x_X9_day 2 [.ref 33, .int a1, .int a2] ly0 I L R0 0 0 (some (.int v), ly0, I, L, R0) :=
  Ct_of_V mo_X9_day.1 (Nat.le_of_ble_eq_true rfl) (V_X9_day (P := fun x => x = v)  (fun _ e => by rw [e]) (by rw [h]; exact rfl))
def F_X9_cloth_31 (I : WI) (L : WL) (a1 : Int32) (s0 : Int64) : Int64 :=
  s0
theorem V_X9_cloth_31  {I : WI} {L : WL} {a1 : Int32} {s0 : Int64} {P : Int64 → Prop} {t : Tg} (hr : ∀ v, P v → t = (some (.long v), ly0, I, L, R0)) (kk : P (F_X9_cloth_31 I L a1 s0)) : V (zM x_X9_cloth 1 0 0 t) 31 [(0, .ref 33), (1, .int a1)] [.long s0] ly0 I L R0 0 0 :=
  V_lret (tat ok_X9_cloth_0 (i := 15) (q := 32) rfl rfl) rfl (hr s0 (jx (P := P) kk rfl)) ⟨(Nat.le_of_ble_eq_true rfl), (Nat.le_of_ble_eq_true rfl)⟩
def F_X9_cloth_30 (I : WI) (L : WL) (a1 : Int32) : Int64 :=
  (F_X9_cloth_31 I L a1 0)
theorem V_X9_cloth_30  {I : WI} {L : WL} {a1 : Int32}  {P : Int64 → Prop} {t : Tg} (hr : ∀ v, P v → t = (some (.long v), ly0, I, L, R0)) (kk : P (F_X9_cloth_30 I L a1)) : V (zM x_X9_cloth 1 0 0 t) 30 [(0, .ref 33), (1, .int a1)] [] ly0 I L R0 0 0 :=
  V_lconst (v := 0) (tat ok_X9_cloth_0 (i := 14) (q := 31) rfl rfl) rfl <|
    V_X9_cloth_31  hr (jx (P := P) kk rfl)
def F_X9_cloth (I : WI) (L : WL) (a1 : Int32) : Int64 :=
  (if a1 = 0 then (F_X9_cloth_31 I L a1 (L 33 2)) else (if a1 = 1 then (if (bz (I 33 4)) = 0 then (F_X9_cloth_30 I L a1) else (F_X9_cloth_31 I L a1 (L 33 3))) else (F_X9_cloth_30 I L a1)))
theorem V_X9_cloth  {I : WI} {L : WL} {a1 : Int32}  {P : Int64 → Prop} {t : Tg} (hr : ∀ v, P v → t = (some (.long v), ly0, I, L, R0)) (kk : P (F_X9_cloth I L a1)) : V (zM x_X9_cloth 1 0 0 t) 0 [(0, .ref 33), (1, .int a1)] [] ly0 I L R0 0 0 :=
  V_iload_n (tat ok_X9_cloth_0 (i := 0) (q := 1) rfl rfl) 1 rfl rfl <|
    V_if_ne (tat ok_X9_cloth_0 (i := 1) (q := 4) rfl rfl) rfl (fun c1 => V_iload_n (tat ok_X9_cloth_0 (i := 5) (q := 12) rfl rfl) 1 rfl rfl <|
    V_iconst (tat ok_X9_cloth_0 (i := 6) (q := 13) rfl rfl) ic_1 <|
    V_icmp_ne (tat ok_X9_cloth_0 (i := 7) (q := 16) rfl rfl) rfl (fun c2 => V_X9_cloth_30  hr (jx (P := P) kk (Eq.trans (if_neg c1) (if_neg c2)))) (fun c2 => V_aload_n (tat ok_X9_cloth_0 (i := 8) (q := 17) rfl rfl) 0 rfl rfl <|
    V_getZ (tat ok_X9_cloth_0 (i := 9) (q := 20) rfl rfl) fk_X9_86 rfl <|
    V_if_eq (tat ok_X9_cloth_0 (i := 10) (q := 23) rfl rfl) rfl (fun c3 => V_X9_cloth_30  hr (jx (P := P) kk (Eq.trans (if_neg c1) (Eq.trans (if_pos c2) (if_pos c3))))) (fun c3 => V_aload_n (tat ok_X9_cloth_0 (i := 11) (q := 24) rfl rfl) 0 rfl rfl <|
    V_getL (tat ok_X9_cloth_0 (i := 12) (q := 27) rfl rfl) fk_X9_83 rfl <|
    V_goto (tat ok_X9_cloth_0 (i := 13) (q := 30) rfl rfl) rfl <|
    V_X9_cloth_31  hr (jx (P := P) kk (Eq.trans (if_neg c1) (Eq.trans (if_pos c2) (if_neg c3))))))) (fun c1 => V_aload_n (tat ok_X9_cloth_0 (i := 2) (q := 5) rfl rfl) 0 rfl rfl <|
    V_getL (tat ok_X9_cloth_0 (i := 3) (q := 8) rfl rfl) fk_X9_80 rfl <|
    V_goto (tat ok_X9_cloth_0 (i := 4) (q := 11) rfl rfl) rfl <|
    V_X9_cloth_31  hr (jx (P := P) kk (if_pos c1)))
theorem ct_X9_cloth  (I : WI) (L : WL) (a1 : Int32)  : Ct x_X9_cloth 1 [.ref 33, .int a1] ly0 I L R0 0 0 (some (.long (F_X9_cloth I L a1)), ly0, I, L, R0) :=
  Ct_of_V mo_X9_cloth.1 (Nat.le_of_ble_eq_true rfl) (V_X9_cloth (P := fun x => x = (F_X9_cloth I L a1))  (fun _ e => by rw [e]) rfl)
def F_X9_isSquare_37 (I : WI) (a1 : Int32) (a2 : Int32) (s0 : Int32) : Int32 :=
  s0
theorem V_X9_isSquare_37  {I : WI} {L : WL} {a1 : Int32} {a2 : Int32} {s0 : Int32} {P : Int32 → Prop} {t : Tg} (hs0 : bz s0 = s0) (hr : ∀ v, P v → t = (some (.int v), ly0, I, L, R0)) (kk : P (F_X9_isSquare_37 I a1 a2 s0)) : V (zM x_X9_isSquare 2 0 0 t) 37 [(0, .ref 33), (1, .int a1), (2, .int a2)] [.int s0] ly0 I L R0 0 0 :=
  V_iret (tat ok_X9_isSquare_0 (i := 23) (q := 38) rfl rfl) _ rfl (bz_nf hs0).1 (hr s0 (jx (P := P) kk rfl)) ⟨(Nat.le_of_ble_eq_true rfl), (Nat.le_of_ble_eq_true rfl)⟩
def F_X9_isSquare_36 (I : WI) (a1 : Int32) (a2 : Int32) : Int32 :=
  (F_X9_isSquare_37 I a1 a2 0)
theorem V_X9_isSquare_36  {I : WI} {L : WL} {a1 : Int32} {a2 : Int32}  {P : Int32 → Prop} {t : Tg} (hr : ∀ v, P v → t = (some (.int v), ly0, I, L, R0)) (kk : P (F_X9_isSquare_36 I a1 a2)) : V (zM x_X9_isSquare 2 0 0 t) 36 [(0, .ref 33), (1, .int a1), (2, .int a2)] [] ly0 I L R0 0 0 :=
  V_iconst (tat ok_X9_isSquare_0 (i := 22) (q := 37) rfl rfl) ic_0 <|
    V_X9_isSquare_37 rfl hr (jx (P := P) kk rfl)
def F_X9_isSquare (I : WI) (a1 : Int32) (a2 : Int32) : Int32 :=
  (if (F_X9_in (Int32.toInt64 a1) 0 (Int32.toInt64 ((I 33 0) - 1))) = 0 then (F_X9_isSquare_36 I a1 a2) else (if (F_X9_in (Int32.toInt64 a2) 0 (Int32.toInt64 ((I 33 1) - 1))) = 0 then (F_X9_isSquare_36 I a1 a2) else (F_X9_isSquare_37 I a1 a2 1)))
theorem V_X9_isSquare  {I : WI} {L : WL} {a1 : Int32} {a2 : Int32}  {P : Int32 → Prop} {t : Tg} (hr : ∀ v, P v → t = (some (.int v), ly0, I, L, R0)) (kk : P (F_X9_isSquare I a1 a2)) : V (zM x_X9_isSquare 2 0 0 t) 0 [(0, .ref 33), (1, .int a1), (2, .int a2)] [] ly0 I L R0 0 0 :=
  V_iload_n (tat ok_X9_isSquare_0 (i := 0) (q := 1) rfl rfl) 1 rfl rfl <|
    V_i2l (tat ok_X9_isSquare_0 (i := 1) (q := 2) rfl rfl) <|
    V_lconst (v := 0) (tat ok_X9_isSquare_0 (i := 2) (q := 3) rfl rfl) rfl <|
    V_aload_n (tat ok_X9_isSquare_0 (i := 3) (q := 4) rfl rfl) 0 rfl rfl <|
    V_getI (tat ok_X9_isSquare_0 (i := 4) (q := 7) rfl rfl) fk_X9_74 rfl <|
    V_iconst (tat ok_X9_isSquare_0 (i := 5) (q := 8) rfl rfl) ic_1 <|
    V_isub (tat ok_X9_isSquare_0 (i := 6) (q := 9) rfl rfl) <|
    V_i2l (tat ok_X9_isSquare_0 (i := 7) (q := 10) rfl rfl) <|
    V_cs3 (ct_X9_in I L (Int32.toInt64 a1) 0 (Int32.toInt64 ((I 33 0) - 1)) ) mo_X9_in (tat ok_X9_isSquare_0 (i := 8) (q := 13) rfl rfl) ml_X9_97 ⟨(Nat.le_of_ble_eq_true rfl), (Nat.le_of_ble_eq_true rfl)⟩ ⟨(Nat.le_of_ble_eq_true rfl), (Nat.le_of_ble_eq_true rfl)⟩ (Nat.le_of_ble_eq_true rfl) <|
    V_if_eq (tat ok_X9_isSquare_0 (i := 9) (q := 16) rfl rfl) rfl (fun c1 => V_X9_isSquare_36  hr (jx (P := P) kk (if_pos c1))) (fun c1 => V_iload_n (tat ok_X9_isSquare_0 (i := 10) (q := 17) rfl rfl) 2 rfl rfl <|
    V_i2l (tat ok_X9_isSquare_0 (i := 11) (q := 18) rfl rfl) <|
    V_lconst (v := 0) (tat ok_X9_isSquare_0 (i := 12) (q := 19) rfl rfl) rfl <|
    V_aload_n (tat ok_X9_isSquare_0 (i := 13) (q := 20) rfl rfl) 0 rfl rfl <|
    V_getI (tat ok_X9_isSquare_0 (i := 14) (q := 23) rfl rfl) fk_X9_77 rfl <|
    V_iconst (tat ok_X9_isSquare_0 (i := 15) (q := 24) rfl rfl) ic_1 <|
    V_isub (tat ok_X9_isSquare_0 (i := 16) (q := 25) rfl rfl) <|
    V_i2l (tat ok_X9_isSquare_0 (i := 17) (q := 26) rfl rfl) <|
    V_cs3 (ct_X9_in I L (Int32.toInt64 a2) 0 (Int32.toInt64 ((I 33 1) - 1)) ) mo_X9_in (tat ok_X9_isSquare_0 (i := 18) (q := 29) rfl rfl) ml_X9_97 ⟨(Nat.le_of_ble_eq_true rfl), (Nat.le_of_ble_eq_true rfl)⟩ ⟨(Nat.le_of_ble_eq_true rfl), (Nat.le_of_ble_eq_true rfl)⟩ (Nat.le_of_ble_eq_true rfl) <|
    V_if_eq (tat ok_X9_isSquare_0 (i := 19) (q := 32) rfl rfl) rfl (fun c2 => V_X9_isSquare_36  hr (jx (P := P) kk (Eq.trans (if_neg c1) (if_pos c2)))) (fun c2 => V_iconst (tat ok_X9_isSquare_0 (i := 20) (q := 33) rfl rfl) ic_1 <|
    V_goto (tat ok_X9_isSquare_0 (i := 21) (q := 36) rfl rfl) rfl <|
    V_X9_isSquare_37 rfl hr (jx (P := P) kk (Eq.trans (if_neg c1) (if_neg c2)))))
theorem ct_X9_isSquare  (I : WI) (L : WL) (a1 : Int32) (a2 : Int32)  : Ct x_X9_isSquare 2 [.ref 33, .int a1, .int a2] ly0 I L R0 0 0 (some (.int (F_X9_isSquare I a1 a2)), ly0, I, L, R0) :=
  Ct_of_V mo_X9_isSquare.1 (Nat.le_of_ble_eq_true rfl) (V_X9_isSquare (P := fun x => x = (F_X9_isSquare I a1 a2))  (fun _ e => by rw [e]) rfl)
def F_X9_isDark (a0 : Int64) (a2 : Int32) (a3 : Int32) : Int32 :=
  (Int64.toInt32 ((lsr a0 ((8 * a2) + a3)) &&& 1))
theorem V_X9_isDark  {I : WI} {L : WL} {a0 : Int64} {a2 : Int32} {a3 : Int32}  {P : Int32 → Prop} {t : Tg} (hr : ∀ v, P v → t = (some (.int v), ly0, I, L, R0)) (kk : P (F_X9_isDark a0 a2 a3)) : V (zM x_X9_isDark 1 0 0 t) 0 [(0, .long a0), (2, .int a2), (3, .int a3)] [] ly0 I L R0 0 0 :=
  V_lload_n (tat ok_X9_isDark_0 (i := 0) (q := 1) rfl rfl) 0 rfl rfl <|
    V_bipush (tat ok_X9_isDark_0 (i := 1) (q := 3) rfl rfl) bp_8 <|
    V_iload_n (tat ok_X9_isDark_0 (i := 2) (q := 4) rfl rfl) 1 rfl rfl <|
    V_imul (tat ok_X9_isDark_0 (i := 3) (q := 5) rfl rfl) <|
    V_iload_n (tat ok_X9_isDark_0 (i := 4) (q := 6) rfl rfl) 2 rfl rfl <|
    V_iadd (tat ok_X9_isDark_0 (i := 5) (q := 7) rfl rfl) <|
    V_lshr (tat ok_X9_isDark_0 (i := 6) (q := 8) rfl rfl) <|
    V_lconst (v := 1) (tat ok_X9_isDark_0 (i := 7) (q := 9) rfl rfl) rfl <|
    V_land (tat ok_X9_isDark_0 (i := 8) (q := 10) rfl rfl) <|
    V_l2i (tat ok_X9_isDark_0 (i := 9) (q := 11) rfl rfl) <|
    V_iret (tat ok_X9_isDark_0 (i := 10) (q := 12) rfl rfl) _ rfl (nar_int _) (hr (Int64.toInt32 ((lsr a0 ((8 * a2) + a3)) &&& 1)) (jx (P := P) kk rfl)) ⟨(Nat.le_of_ble_eq_true rfl), (Nat.le_of_ble_eq_true rfl)⟩
theorem ct_X9_isDark  (I : WI) (L : WL) (a0 : Int64) (a2 : Int32) (a3 : Int32)  : Ct x_X9_isDark 1 [.long a0, .int a2, .int a3] ly0 I L R0 0 0 (some (.int (F_X9_isDark a0 a2 a3)), ly0, I, L, R0) :=
  Ct_of_V mo_X9_isDark.1 (Nat.le_of_ble_eq_true rfl) (V_X9_isDark (P := fun x => x = (F_X9_isDark a0 a2 a3))  (fun _ e => by rw [e]) rfl)
def F_X9_square_22 (I : WI) (L : WL) (a1 : Int32) (a2 : Int32) (s0 : Int32) : Int32 :=
  s0
theorem V_X9_square_22  {I : WI} {L : WL} {a1 : Int32} {a2 : Int32} {s0 : Int32} {P : Int32 → Prop} {t : Tg} (hr : ∀ v, P v → t = (some (.int v), ly0, I, L, R0)) (kk : P (F_X9_square_22 I L a1 a2 s0)) : V (zM x_X9_square 3 0 0 t) 22 [(0, .ref 33), (1, .int a1), (2, .int a2)] [.int s0] ly0 I L R0 0 0 :=
  V_iret (tat ok_X9_square_0 (i := 12) (q := 23) rfl rfl) _ rfl (nar_int _) (hr s0 (jx (P := P) kk rfl)) ⟨(Nat.le_of_ble_eq_true rfl), (Nat.le_of_ble_eq_true rfl)⟩
def F_X9_square (I : WI) (L : WL) (a1 : Int32) (a2 : Int32) : Int32 :=
  (if (F_X9_isSquare I a1 a2) = 0 then (F_X9_square_22 I L a1 a2 (-1)) else (F_X9_square_22 I L a1 a2 (F_X9_isDark (L 33 2) a1 a2)))
theorem V_X9_square  {I : WI} {L : WL} {a1 : Int32} {a2 : Int32}  {P : Int32 → Prop} {t : Tg} (hr : ∀ v, P v → t = (some (.int v), ly0, I, L, R0)) (kk : P (F_X9_square I L a1 a2)) : V (zM x_X9_square 3 0 0 t) 0 [(0, .ref 33), (1, .int a1), (2, .int a2)] [] ly0 I L R0 0 0 :=
  V_aload_n (tat ok_X9_square_0 (i := 0) (q := 1) rfl rfl) 0 rfl rfl <|
    V_iload_n (tat ok_X9_square_0 (i := 1) (q := 2) rfl rfl) 1 rfl rfl <|
    V_iload_n (tat ok_X9_square_0 (i := 2) (q := 3) rfl rfl) 2 rfl rfl <|
    V_cv2 (ct_X9_isSquare I L a1 a2 ) mo_X9_isSquare (tat ok_X9_square_0 (i := 3) (q := 6) rfl rfl) ml_X9_206 rfl ⟨by decide, _, rfl, rfl⟩ ⟨(Nat.le_of_ble_eq_true rfl), (Nat.le_of_ble_eq_true rfl)⟩ ⟨(Nat.le_of_ble_eq_true rfl), (Nat.le_of_ble_eq_true rfl)⟩ (Nat.le_of_ble_eq_true rfl) <|
    V_if_eq (tat ok_X9_square_0 (i := 4) (q := 9) rfl rfl) rfl (fun c1 => V_iconst (tat ok_X9_square_0 (i := 11) (q := 22) rfl rfl) ic_m1 <|
    V_X9_square_22  hr (jx (P := P) kk (if_pos c1))) (fun c1 => V_aload_n (tat ok_X9_square_0 (i := 5) (q := 10) rfl rfl) 0 rfl rfl <|
    V_getL (tat ok_X9_square_0 (i := 6) (q := 13) rfl rfl) fk_X9_80 rfl <|
    V_iload_n (tat ok_X9_square_0 (i := 7) (q := 14) rfl rfl) 1 rfl rfl <|
    V_iload_n (tat ok_X9_square_0 (i := 8) (q := 15) rfl rfl) 2 rfl rfl <|
    V_cs3 (ct_X9_isDark I L (L 33 2) a1 a2 ) mo_X9_isDark (tat ok_X9_square_0 (i := 9) (q := 18) rfl rfl) ml_X9_210 ⟨(Nat.le_of_ble_eq_true rfl), (Nat.le_of_ble_eq_true rfl)⟩ ⟨(Nat.le_of_ble_eq_true rfl), (Nat.le_of_ble_eq_true rfl)⟩ (Nat.le_of_ble_eq_true rfl) <|
    V_goto (tat ok_X9_square_0 (i := 10) (q := 21) rfl rfl) rfl <|
    V_X9_square_22  hr (jx (P := P) kk (if_neg c1)))
theorem ct_X9_square  (I : WI) (L : WL) (a1 : Int32) (a2 : Int32)  : Ct x_X9_square 3 [.ref 33, .int a1, .int a2] ly0 I L R0 0 0 (some (.int (F_X9_square I L a1 a2)), ly0, I, L, R0) :=
  Ct_of_V mo_X9_square.1 (Nat.le_of_ble_eq_true rfl) (V_X9_square (P := fun x => x = (F_X9_square I L a1 a2))  (fun _ e => by rw [e]) rfl)
def F_X9_paint_54 (I : WI) (L : WL) (a1 : Int32) (a2 : Int32) (a3 : Int32) (a4 : Int32) (s0 : Int64) : (Int32 × WL) :=
  (a4, (u2 L 33 2 s0))
theorem V_X9_paint_54  {I : WI} {L : WL} {a1 : Int32} {a2 : Int32} {a3 : Int32} {a4 : Int32} {s0 : Int64} {P : (Int32 × WL) → Prop} {t : Tg} (hr : ∀ v, P v → t = (some (.int (p1 v)), ly0, I, (p2 v), R0)) (kk : P (F_X9_paint_54 I L a1 a2 a3 a4 s0)) : V (zM x_X9_paint 3 0 0 t) 54 [(0, .ref 33), (1, .int a1), (2, .int a2), (3, .int a3), (4, .int a4)] [.long s0, .ref 33] ly0 I L R0 0 0 :=
  V_putL (tat ok_X9_paint_0 (i := 31) (q := 57) rfl rfl) fk_X9_80 rfl rfl <|
    V_iload (tat ok_X9_paint_0 (i := 32) (q := 59) rfl rfl) 4 rfl <|
    V_iret (tat ok_X9_paint_0 (i := 33) (q := 60) rfl rfl) _ rfl (nar_int _) (hr (a4, (u2 L 33 2 s0)) (jx (P := P) kk rfl)) ⟨(Nat.le_of_ble_eq_true rfl), (Nat.le_of_ble_eq_true rfl)⟩
def F_X9_paint (I : WI) (L : WL) (a1 : Int32) (a2 : Int32) (a3 : Int32) : (Int32 × WL) :=
  (if (F_X9_isSquare I a1 a2) = 0 then ((-1), L) else (if a3 = 0 then (F_X9_paint_54 I L a1 a2 a3 (F_X9_isDark (L 33 2) a1 a2) ((L 33 2) &&& ((F_X9_bitOf a1 a2) ^^^ (-1)))) else (F_X9_paint_54 I L a1 a2 a3 (F_X9_isDark (L 33 2) a1 a2) ((L 33 2) ||| (F_X9_bitOf a1 a2)))))
theorem V_X9_paint  {I : WI} {L : WL} {a1 : Int32} {a2 : Int32} {a3 : Int32}  {P : (Int32 × WL) → Prop} {t : Tg} (hr : ∀ v, P v → t = (some (.int (p1 v)), ly0, I, (p2 v), R0)) (kk : P (F_X9_paint I L a1 a2 a3)) : V (zM x_X9_paint 3 0 0 t) 0 [(0, .ref 33), (1, .int a1), (2, .int a2), (3, .int a3)] [] ly0 I L R0 0 0 :=
  V_aload_n (tat ok_X9_paint_0 (i := 0) (q := 1) rfl rfl) 0 rfl rfl <|
    V_iload_n (tat ok_X9_paint_0 (i := 1) (q := 2) rfl rfl) 1 rfl rfl <|
    V_iload_n (tat ok_X9_paint_0 (i := 2) (q := 3) rfl rfl) 2 rfl rfl <|
    V_cv2 (ct_X9_isSquare I L a1 a2 ) mo_X9_isSquare (tat ok_X9_paint_0 (i := 3) (q := 6) rfl rfl) ml_X9_206 rfl ⟨by decide, _, rfl, rfl⟩ ⟨(Nat.le_of_ble_eq_true rfl), (Nat.le_of_ble_eq_true rfl)⟩ ⟨(Nat.le_of_ble_eq_true rfl), (Nat.le_of_ble_eq_true rfl)⟩ (Nat.le_of_ble_eq_true rfl) <|
    V_if_ne (tat ok_X9_paint_0 (i := 4) (q := 9) rfl rfl) rfl (fun c1 => V_aload_n (tat ok_X9_paint_0 (i := 7) (q := 12) rfl rfl) 0 rfl rfl <|
    V_getL (tat ok_X9_paint_0 (i := 8) (q := 15) rfl rfl) fk_X9_80 rfl <|
    V_iload_n (tat ok_X9_paint_0 (i := 9) (q := 16) rfl rfl) 1 rfl rfl <|
    V_iload_n (tat ok_X9_paint_0 (i := 10) (q := 17) rfl rfl) 2 rfl rfl <|
    V_cs3 (ct_X9_isDark I L (L 33 2) a1 a2 ) mo_X9_isDark (tat ok_X9_paint_0 (i := 11) (q := 20) rfl rfl) ml_X9_210 ⟨(Nat.le_of_ble_eq_true rfl), (Nat.le_of_ble_eq_true rfl)⟩ ⟨(Nat.le_of_ble_eq_true rfl), (Nat.le_of_ble_eq_true rfl)⟩ (Nat.le_of_ble_eq_true rfl) <|
    V_istore (lv' := [(4, .int (F_X9_isDark (L 33 2) a1 a2)), (0, .ref 33), (1, .int a1), (2, .int a2), (3, .int a3)]) (tat ok_X9_paint_0 (i := 12) (q := 22) rfl rfl) (Nat.le_of_ble_eq_true rfl) rfl <|
    V_aload_n (tat ok_X9_paint_0 (i := 13) (q := 23) rfl rfl) 1 rfl rfl <|
    V_iload_n (tat ok_X9_paint_0 (i := 14) (q := 24) rfl rfl) 4 rfl rfl <|
    V_if_eq (tat ok_X9_paint_0 (i := 15) (q := 27) rfl rfl) rfl (fun c2 => V_aload_n (tat ok_X9_paint_0 (i := 23) (q := 41) rfl rfl) 1 rfl rfl <|
    V_getL (tat ok_X9_paint_0 (i := 24) (q := 44) rfl rfl) fk_X9_80 rfl <|
    V_iload_n (tat ok_X9_paint_0 (i := 25) (q := 45) rfl rfl) 2 rfl rfl <|
    V_iload_n (tat ok_X9_paint_0 (i := 26) (q := 46) rfl rfl) 3 rfl rfl <|
    V_cs2 (ct_X9_bitOf I L a1 a2 ) mo_X9_bitOf (tat ok_X9_paint_0 (i := 27) (q := 49) rfl rfl) ml_X9_155 ⟨(Nat.le_of_ble_eq_true rfl), (Nat.le_of_ble_eq_true rfl)⟩ ⟨(Nat.le_of_ble_eq_true rfl), (Nat.le_of_ble_eq_true rfl)⟩ (Nat.le_of_ble_eq_true rfl) <|
    V_ldc2 (tat ok_X9_paint_0 (i := 28) (q := 52) rfl rfl) (gw_in kl_X9_204 rfl) <|
    V_lxor (tat ok_X9_paint_0 (i := 29) (q := 53) rfl rfl) <|
    V_land (tat ok_X9_paint_0 (i := 30) (q := 54) rfl rfl) <|
    V_pick [1, 2, 3, 4, 0] rfl (V_X9_paint_54  hr (jx (P := P) kk (Eq.trans (if_neg c1) (if_pos c2))))) (fun c2 => V_aload_n (tat ok_X9_paint_0 (i := 16) (q := 28) rfl rfl) 1 rfl rfl <|
    V_getL (tat ok_X9_paint_0 (i := 17) (q := 31) rfl rfl) fk_X9_80 rfl <|
    V_iload_n (tat ok_X9_paint_0 (i := 18) (q := 32) rfl rfl) 2 rfl rfl <|
    V_iload_n (tat ok_X9_paint_0 (i := 19) (q := 33) rfl rfl) 3 rfl rfl <|
    V_cs2 (ct_X9_bitOf I L a1 a2 ) mo_X9_bitOf (tat ok_X9_paint_0 (i := 20) (q := 36) rfl rfl) ml_X9_155 ⟨(Nat.le_of_ble_eq_true rfl), (Nat.le_of_ble_eq_true rfl)⟩ ⟨(Nat.le_of_ble_eq_true rfl), (Nat.le_of_ble_eq_true rfl)⟩ (Nat.le_of_ble_eq_true rfl) <|
    V_lor (tat ok_X9_paint_0 (i := 21) (q := 37) rfl rfl) <|
    V_goto (tat ok_X9_paint_0 (i := 22) (q := 40) rfl rfl) rfl <|
    V_pick [1, 2, 3, 4, 0] rfl (V_X9_paint_54  hr (jx (P := P) kk (Eq.trans (if_neg c1) (if_neg c2)))))) (fun c1 => V_iconst (tat ok_X9_paint_0 (i := 5) (q := 10) rfl rfl) ic_m1 <|
    V_iret (tat ok_X9_paint_0 (i := 6) (q := 11) rfl rfl) _ rfl (nar_int _) (hr ((-1), L) (jx (P := P) kk (if_pos c1))) ⟨(Nat.le_of_ble_eq_true rfl), (Nat.le_of_ble_eq_true rfl)⟩)
theorem ct_X9_paint  (I : WI) (L : WL) (a1 : Int32) (a2 : Int32) (a3 : Int32)  : Ct x_X9_paint 3 [.ref 33, .int a1, .int a2, .int a3] ly0 I L R0 0 0 (some (.int (p1 (F_X9_paint I L a1 a2 a3))), ly0, I, (p2 (F_X9_paint I L a1 a2 a3)), R0) :=
  Ct_of_V mo_X9_paint.1 (Nat.le_of_ble_eq_true rfl) (V_X9_paint (P := fun x => x = (F_X9_paint I L a1 a2 a3))  (fun _ e => by rw [e]) rfl)
def F_X9_wish_64 (I : WI) (L : WL) (a1 : Int32) (a2 : Int32) (a3 : Int32) (a4 : Int32) (s0 : Int64) : (Int32 × WL) :=
  (a4, (u2 L 33 3 s0))
theorem V_X9_wish_64  {I : WI} {L : WL} {a1 : Int32} {a2 : Int32} {a3 : Int32} {a4 : Int32} {s0 : Int64} {P : (Int32 × WL) → Prop} {t : Tg} (hr : ∀ v, P v → t = (some (.int (p1 v)), ly0, I, (p2 v), R0)) (kk : P (F_X9_wish_64 I L a1 a2 a3 a4 s0)) : V (zM x_X9_wish 3 0 0 t) 64 [(0, .ref 33), (1, .int a1), (2, .int a2), (3, .int a3), (4, .int a4)] [.long s0, .ref 33] ly0 I L R0 0 0 :=
  V_putL (tat ok_X9_wish_0 (i := 36) (q := 67) rfl rfl) fk_X9_83 rfl rfl <|
    V_iload (tat ok_X9_wish_0 (i := 37) (q := 69) rfl rfl) 4 rfl <|
    V_iret (tat ok_X9_wish_0 (i := 38) (q := 70) rfl rfl) _ rfl (nar_int _) (hr (a4, (u2 L 33 3 s0)) (jx (P := P) kk rfl)) ⟨(Nat.le_of_ble_eq_true rfl), (Nat.le_of_ble_eq_true rfl)⟩
def F_X9_wish (I : WI) (L : WL) (a1 : Int32) (a2 : Int32) (a3 : Int32) : (Int32 × WL) :=
  (if (F_X9_isSquare I a1 a2) = 0 then ((-1), L) else (if (bz (I 33 4)) = 0 then ((-2), L) else (if a3 = 0 then (F_X9_wish_64 I L a1 a2 a3 (F_X9_isDark (L 33 3) a1 a2) ((L 33 3) &&& ((F_X9_bitOf a1 a2) ^^^ (-1)))) else (F_X9_wish_64 I L a1 a2 a3 (F_X9_isDark (L 33 3) a1 a2) ((L 33 3) ||| (F_X9_bitOf a1 a2))))))
theorem V_X9_wish  {I : WI} {L : WL} {a1 : Int32} {a2 : Int32} {a3 : Int32}  {P : (Int32 × WL) → Prop} {t : Tg} (hr : ∀ v, P v → t = (some (.int (p1 v)), ly0, I, (p2 v), R0)) (kk : P (F_X9_wish I L a1 a2 a3)) : V (zM x_X9_wish 3 0 0 t) 0 [(0, .ref 33), (1, .int a1), (2, .int a2), (3, .int a3)] [] ly0 I L R0 0 0 :=
  V_aload_n (tat ok_X9_wish_0 (i := 0) (q := 1) rfl rfl) 0 rfl rfl <|
    V_iload_n (tat ok_X9_wish_0 (i := 1) (q := 2) rfl rfl) 1 rfl rfl <|
    V_iload_n (tat ok_X9_wish_0 (i := 2) (q := 3) rfl rfl) 2 rfl rfl <|
    V_cv2 (ct_X9_isSquare I L a1 a2 ) mo_X9_isSquare (tat ok_X9_wish_0 (i := 3) (q := 6) rfl rfl) ml_X9_206 rfl ⟨by decide, _, rfl, rfl⟩ ⟨(Nat.le_of_ble_eq_true rfl), (Nat.le_of_ble_eq_true rfl)⟩ ⟨(Nat.le_of_ble_eq_true rfl), (Nat.le_of_ble_eq_true rfl)⟩ (Nat.le_of_ble_eq_true rfl) <|
    V_if_ne (tat ok_X9_wish_0 (i := 4) (q := 9) rfl rfl) rfl (fun c1 => V_aload_n (tat ok_X9_wish_0 (i := 7) (q := 12) rfl rfl) 0 rfl rfl <|
    V_getZ (tat ok_X9_wish_0 (i := 8) (q := 15) rfl rfl) fk_X9_86 rfl <|
    V_if_ne (tat ok_X9_wish_0 (i := 9) (q := 18) rfl rfl) rfl (fun c2 => V_aload_n (tat ok_X9_wish_0 (i := 12) (q := 22) rfl rfl) 0 rfl rfl <|
    V_getL (tat ok_X9_wish_0 (i := 13) (q := 25) rfl rfl) fk_X9_83 rfl <|
    V_iload_n (tat ok_X9_wish_0 (i := 14) (q := 26) rfl rfl) 1 rfl rfl <|
    V_iload_n (tat ok_X9_wish_0 (i := 15) (q := 27) rfl rfl) 2 rfl rfl <|
    V_cs3 (ct_X9_isDark I L (L 33 3) a1 a2 ) mo_X9_isDark (tat ok_X9_wish_0 (i := 16) (q := 30) rfl rfl) ml_X9_210 ⟨(Nat.le_of_ble_eq_true rfl), (Nat.le_of_ble_eq_true rfl)⟩ ⟨(Nat.le_of_ble_eq_true rfl), (Nat.le_of_ble_eq_true rfl)⟩ (Nat.le_of_ble_eq_true rfl) <|
    V_istore (lv' := [(4, .int (F_X9_isDark (L 33 3) a1 a2)), (0, .ref 33), (1, .int a1), (2, .int a2), (3, .int a3)]) (tat ok_X9_wish_0 (i := 17) (q := 32) rfl rfl) (Nat.le_of_ble_eq_true rfl) rfl <|
    V_aload_n (tat ok_X9_wish_0 (i := 18) (q := 33) rfl rfl) 1 rfl rfl <|
    V_iload_n (tat ok_X9_wish_0 (i := 19) (q := 34) rfl rfl) 4 rfl rfl <|
    V_if_eq (tat ok_X9_wish_0 (i := 20) (q := 37) rfl rfl) rfl (fun c3 => V_aload_n (tat ok_X9_wish_0 (i := 28) (q := 51) rfl rfl) 1 rfl rfl <|
    V_getL (tat ok_X9_wish_0 (i := 29) (q := 54) rfl rfl) fk_X9_83 rfl <|
    V_iload_n (tat ok_X9_wish_0 (i := 30) (q := 55) rfl rfl) 2 rfl rfl <|
    V_iload_n (tat ok_X9_wish_0 (i := 31) (q := 56) rfl rfl) 3 rfl rfl <|
    V_cs2 (ct_X9_bitOf I L a1 a2 ) mo_X9_bitOf (tat ok_X9_wish_0 (i := 32) (q := 59) rfl rfl) ml_X9_155 ⟨(Nat.le_of_ble_eq_true rfl), (Nat.le_of_ble_eq_true rfl)⟩ ⟨(Nat.le_of_ble_eq_true rfl), (Nat.le_of_ble_eq_true rfl)⟩ (Nat.le_of_ble_eq_true rfl) <|
    V_ldc2 (tat ok_X9_wish_0 (i := 33) (q := 62) rfl rfl) (gw_in kl_X9_204 rfl) <|
    V_lxor (tat ok_X9_wish_0 (i := 34) (q := 63) rfl rfl) <|
    V_land (tat ok_X9_wish_0 (i := 35) (q := 64) rfl rfl) <|
    V_pick [1, 2, 3, 4, 0] rfl (V_X9_wish_64  hr (jx (P := P) kk (Eq.trans (if_neg c1) (Eq.trans (if_neg c2) (if_pos c3)))))) (fun c3 => V_aload_n (tat ok_X9_wish_0 (i := 21) (q := 38) rfl rfl) 1 rfl rfl <|
    V_getL (tat ok_X9_wish_0 (i := 22) (q := 41) rfl rfl) fk_X9_83 rfl <|
    V_iload_n (tat ok_X9_wish_0 (i := 23) (q := 42) rfl rfl) 2 rfl rfl <|
    V_iload_n (tat ok_X9_wish_0 (i := 24) (q := 43) rfl rfl) 3 rfl rfl <|
    V_cs2 (ct_X9_bitOf I L a1 a2 ) mo_X9_bitOf (tat ok_X9_wish_0 (i := 25) (q := 46) rfl rfl) ml_X9_155 ⟨(Nat.le_of_ble_eq_true rfl), (Nat.le_of_ble_eq_true rfl)⟩ ⟨(Nat.le_of_ble_eq_true rfl), (Nat.le_of_ble_eq_true rfl)⟩ (Nat.le_of_ble_eq_true rfl) <|
    V_lor (tat ok_X9_wish_0 (i := 26) (q := 47) rfl rfl) <|
    V_goto (tat ok_X9_wish_0 (i := 27) (q := 50) rfl rfl) rfl <|
    V_pick [1, 2, 3, 4, 0] rfl (V_X9_wish_64  hr (jx (P := P) kk (Eq.trans (if_neg c1) (Eq.trans (if_neg c2) (if_neg c3))))))) (fun c2 => V_bipush (tat ok_X9_wish_0 (i := 10) (q := 20) rfl rfl) bp_m2 <|
    V_iret (tat ok_X9_wish_0 (i := 11) (q := 21) rfl rfl) _ rfl (nar_int _) (hr ((-2), L) (jx (P := P) kk (Eq.trans (if_neg c1) (if_pos c2)))) ⟨(Nat.le_of_ble_eq_true rfl), (Nat.le_of_ble_eq_true rfl)⟩)) (fun c1 => V_iconst (tat ok_X9_wish_0 (i := 5) (q := 10) rfl rfl) ic_m1 <|
    V_iret (tat ok_X9_wish_0 (i := 6) (q := 11) rfl rfl) _ rfl (nar_int _) (hr ((-1), L) (jx (P := P) kk (if_pos c1))) ⟨(Nat.le_of_ble_eq_true rfl), (Nat.le_of_ble_eq_true rfl)⟩)
theorem ct_X9_wish  (I : WI) (L : WL) (a1 : Int32) (a2 : Int32) (a3 : Int32)  : Ct x_X9_wish 3 [.ref 33, .int a1, .int a2, .int a3] ly0 I L R0 0 0 (some (.int (p1 (F_X9_wish I L a1 a2 a3))), ly0, I, (p2 (F_X9_wish I L a1 a2 a3)), R0) :=
  Ct_of_V mo_X9_wish.1 (Nat.le_of_ble_eq_true rfl) (V_X9_wish (P := fun x => x = (F_X9_wish I L a1 a2 a3))  (fun _ e => by rw [e]) rfl)
def F_X9_actSet_96_2 (I : WI) (a1 : Int32) (a2 : Int32) (a5 : Int32) (a6 : Int32) (s0 : Int64) (s1 : Int64) : Int64 :=
  (s1 ||| s0)
theorem V_X9_actSet_96_2  {I : WI} {L : WL} {a1 : Int32} {a2 : Int32} {a5 : Int32} {a6 : Int32} {s0 : Int64} {s1 : Int64} {P : Int64 → Prop} {t : Tg} (hk : ∀ x : Int64, P x → V (zM x_X9_actSet 2 0 0 t) 17 [(0, .ref 33), (1, .int a1), (2, .int a2), (3, .long x), (5, .int a5), (6, .int (a6 + 1))] [] ly0 I L R0 0 0) (kk : P (F_X9_actSet_96_2 I a1 a2 a5 a6 s0 s1)) : V (zM x_X9_actSet 2 0 0 t) 96 [(0, .ref 33), (1, .int a1), (2, .int a2), (5, .int a5), (6, .int a6)] [.long s0, .long s1] ly0 I L R0 0 0 :=
  V_lor (tat ok_X9_actSet_1 (i := 10) (q := 97) rfl rfl) <|
    V_lstore_n (lv' := [(3, .long (s1 ||| s0)), (0, .ref 33), (1, .int a1), (2, .int a2), (5, .int a5), (6, .int a6)]) (tat ok_X9_actSet_1 (i := 11) (q := 98) rfl rfl) rfl (Nat.le_of_ble_eq_true rfl) rfl <|
    V_iinc (v := (a6 + 1)) (lv' := [(6, .int (a6 + 1)), (3, .long (s1 ||| s0)), (0, .ref 33), (1, .int a1), (2, .int a2), (5, .int a5)]) (tat ok_X9_actSet_1 (i := 12) (q := 101) rfl rfl) 5 rfl (ia ic_1) (Nat.le_of_ble_eq_true rfl) rfl <|
    V_goto (tat ok_X9_actSet_1 (i := 13) (q := 104) rfl rfl) rfl <|
    V_pick [2, 3, 4, 1, 5, 0] rfl (hk (s1 ||| s0) (jx (P := P) kk rfl))
def F_X9_actSet_77_2 (I : WI) (a1 : Int32) (a2 : Int32) (a5 : Int32) (a6 : Int32) (a3 : Int64) (s0 : Int32) : Int64 :=
  (if s0 = 0 then (F_X9_actSet_96_2 I a1 a2 a5 a6 0 a3) else (F_X9_actSet_96_2 I a1 a2 a5 a6 (F_X9_bitOf a5 a6) a3))
theorem V_X9_actSet_77_2  {I : WI} {L : WL} {a1 : Int32} {a2 : Int32} {a5 : Int32} {a6 : Int32} {a3 : Int64} {s0 : Int32} {P : Int64 → Prop} {t : Tg} (hs0 : bz s0 = s0) (hk : ∀ x : Int64, P x → V (zM x_X9_actSet 2 0 0 t) 17 [(0, .ref 33), (1, .int a1), (2, .int a2), (3, .long x), (5, .int a5), (6, .int (a6 + 1))] [] ly0 I L R0 0 0) (kk : P (F_X9_actSet_77_2 I a1 a2 a5 a6 a3 s0)) : V (zM x_X9_actSet 2 0 0 t) 77 [(0, .ref 33), (1, .int a1), (2, .int a2), (3, .long a3), (5, .int a5), (6, .int a6)] [.int s0] ly0 I L R0 0 0 :=
  V_istore (lv' := [(7, .int s0), (0, .ref 33), (1, .int a1), (2, .int a2), (3, .long a3), (5, .int a5), (6, .int a6)]) (tat ok_X9_actSet_1 (i := 1) (q := 79) rfl rfl) (Nat.le_of_ble_eq_true rfl) rfl <|
    V_lload_n (tat ok_X9_actSet_1 (i := 2) (q := 80) rfl rfl) 4 rfl rfl <|
    V_iload (tat ok_X9_actSet_1 (i := 3) (q := 82) rfl rfl) 0 rfl <|
    V_if_eq (tat ok_X9_actSet_1 (i := 4) (q := 85) rfl rfl) rfl (fun c3 => V_lconst (v := 0) (tat ok_X9_actSet_1 (i := 9) (q := 96) rfl rfl) rfl <|
    V_pick [1, 2, 3, 5, 6] rfl (V_X9_actSet_96_2  hk (jx (P := P) kk (if_pos c3)))) (fun c3 => V_iload (tat ok_X9_actSet_1 (i := 5) (q := 87) rfl rfl) 5 rfl <|
    V_iload (tat ok_X9_actSet_1 (i := 6) (q := 89) rfl rfl) 6 rfl <|
    V_cs2 (ct_X9_bitOf I L a5 a6 ) mo_X9_bitOf (tat ok_X9_actSet_1 (i := 7) (q := 92) rfl rfl) ml_X9_155 ⟨(Nat.le_of_ble_eq_true rfl), (Nat.le_of_ble_eq_true rfl)⟩ ⟨(Nat.le_of_ble_eq_true rfl), (Nat.le_of_ble_eq_true rfl)⟩ (Nat.le_of_ble_eq_true rfl) <|
    V_goto (tat ok_X9_actSet_1 (i := 8) (q := 95) rfl rfl) rfl <|
    V_pick [1, 2, 3, 5, 6] rfl (V_X9_actSet_96_2  hk (jx (P := P) kk (if_neg c3))))
def F_X9_actSet_26_2 (I : WI) (a1 : Int32) (a2 : Int32) (a5 : Int32) (a6 : Int32) (a3 : Int64) : Int64 :=
  (if a1 = 0 then (if a5 = a2 then (F_X9_actSet_77_2 I a1 a2 a5 a6 a3 1) else (F_X9_actSet_77_2 I a1 a2 a5 a6 a3 0)) else (if a1 = 1 then (if a6 = a2 then (F_X9_actSet_77_2 I a1 a2 a5 a6 a3 1) else (F_X9_actSet_77_2 I a1 a2 a5 a6 a3 0)) else (if (a5 + a6) = a2 then (F_X9_actSet_77_2 I a1 a2 a5 a6 a3 1) else (F_X9_actSet_77_2 I a1 a2 a5 a6 a3 0))))
theorem V_X9_actSet_26_2  {I : WI} {L : WL} {a1 : Int32} {a2 : Int32} {a5 : Int32} {a6 : Int32} {a3 : Int64} {P : Int64 → Prop} {t : Tg} (hk : ∀ x : Int64, P x → V (zM x_X9_actSet 2 0 0 t) 17 [(0, .ref 33), (1, .int a1), (2, .int a2), (3, .long x), (5, .int a5), (6, .int (a6 + 1))] [] ly0 I L R0 0 0) (kk : P (F_X9_actSet_26_2 I a1 a2 a5 a6 a3)) : V (zM x_X9_actSet 2 0 0 t) 26 [(0, .ref 33), (1, .int a1), (2, .int a2), (3, .long a3), (5, .int a5), (6, .int a6)] [] ly0 I L R0 0 0 :=
  V_iload_n (tat ok_X9_actSet_0 (i := 14) (q := 27) rfl rfl) 1 rfl rfl <|
    V_if_ne (tat ok_X9_actSet_0 (i := 15) (q := 30) rfl rfl) rfl (fun c1 => V_iload_n (tat ok_X9_actSet_0 (i := 23) (q := 45) rfl rfl) 1 rfl rfl <|
    V_iconst (tat ok_X9_actSet_0 (i := 24) (q := 46) rfl rfl) ic_1 <|
    V_icmp_ne (tat ok_X9_actSet_0 (i := 25) (q := 49) rfl rfl) rfl (fun c4 => V_iload (tat ok_X9_actSet_0 (i := 33) (q := 65) rfl rfl) 4 rfl <|
    V_iload (tat ok_X9_actSet_0 (i := 34) (q := 67) rfl rfl) 5 rfl <|
    V_iadd (tat ok_X9_actSet_0 (i := 35) (q := 68) rfl rfl) <|
    V_iload_n (tat ok_X9_actSet_0 (i := 36) (q := 69) rfl rfl) 2 rfl rfl <|
    V_icmp_ne (tat ok_X9_actSet_0 (i := 37) (q := 72) rfl rfl) rfl (fun c6 => V_iconst (tat ok_X9_actSet_1 (i := 0) (q := 77) rfl rfl) ic_0 <|
    V_X9_actSet_77_2 rfl hk (jx (P := P) kk (Eq.trans (if_neg c1) (Eq.trans (if_neg c4) (if_neg c6))))) (fun c6 => V_iconst (tat ok_X9_actSet_0 (i := 38) (q := 73) rfl rfl) ic_1 <|
    V_goto (tat ok_X9_actSet_0 (i := 39) (q := 76) rfl rfl) rfl <|
    V_X9_actSet_77_2 rfl hk (jx (P := P) kk (Eq.trans (if_neg c1) (Eq.trans (if_neg c4) (if_pos c6)))))) (fun c4 => V_iload (tat ok_X9_actSet_0 (i := 26) (q := 51) rfl rfl) 5 rfl <|
    V_iload_n (tat ok_X9_actSet_0 (i := 27) (q := 52) rfl rfl) 2 rfl rfl <|
    V_icmp_ne (tat ok_X9_actSet_0 (i := 28) (q := 55) rfl rfl) rfl (fun c5 => V_iconst (tat ok_X9_actSet_0 (i := 31) (q := 60) rfl rfl) ic_0 <|
    V_goto (tat ok_X9_actSet_0 (i := 32) (q := 63) rfl rfl) rfl <|
    V_X9_actSet_77_2 rfl hk (jx (P := P) kk (Eq.trans (if_neg c1) (Eq.trans (if_pos c4) (if_neg c5))))) (fun c5 => V_iconst (tat ok_X9_actSet_0 (i := 29) (q := 56) rfl rfl) ic_1 <|
    V_goto (tat ok_X9_actSet_0 (i := 30) (q := 59) rfl rfl) rfl <|
    V_X9_actSet_77_2 rfl hk (jx (P := P) kk (Eq.trans (if_neg c1) (Eq.trans (if_pos c4) (if_pos c5))))))) (fun c1 => V_iload (tat ok_X9_actSet_0 (i := 16) (q := 32) rfl rfl) 4 rfl <|
    V_iload_n (tat ok_X9_actSet_0 (i := 17) (q := 33) rfl rfl) 2 rfl rfl <|
    V_icmp_ne (tat ok_X9_actSet_0 (i := 18) (q := 36) rfl rfl) rfl (fun c2 => V_iconst (tat ok_X9_actSet_0 (i := 21) (q := 41) rfl rfl) ic_0 <|
    V_goto (tat ok_X9_actSet_0 (i := 22) (q := 44) rfl rfl) rfl <|
    V_X9_actSet_77_2 rfl hk (jx (P := P) kk (Eq.trans (if_pos c1) (if_neg c2)))) (fun c2 => V_iconst (tat ok_X9_actSet_0 (i := 19) (q := 37) rfl rfl) ic_1 <|
    V_goto (tat ok_X9_actSet_0 (i := 20) (q := 40) rfl rfl) rfl <|
    V_X9_actSet_77_2 rfl hk (jx (P := P) kk (Eq.trans (if_pos c1) (if_pos c2)))))
def F_X9_actSet_104_1 (I : WI) (a1 : Int32) (a2 : Int32) (a5 : Int32) (a3 : Int64) : Int64 :=
  a3
theorem V_X9_actSet_104_1  {I : WI} {L : WL} {a1 : Int32} {a2 : Int32} {a5 : Int32} {a3 : Int64} {P : Int64 → Prop} {t : Tg} (hk : ∀ x : Int64, P x → V (zM x_X9_actSet 2 0 0 t) 5 [(0, .ref 33), (1, .int a1), (2, .int a2), (3, .long x), (5, .int (a5 + 1))] [] ly0 I L R0 0 0) (kk : P (F_X9_actSet_104_1 I a1 a2 a5 a3)) : V (zM x_X9_actSet 2 0 0 t) 104 [(0, .ref 33), (1, .int a1), (2, .int a2), (3, .long a3), (5, .int a5)] [] ly0 I L R0 0 0 :=
  V_iinc (v := (a5 + 1)) (lv' := [(5, .int (a5 + 1)), (0, .ref 33), (1, .int a1), (2, .int a2), (3, .long a3)]) (tat ok_X9_actSet_1 (i := 14) (q := 107) rfl rfl) 4 rfl (ia ic_1) (Nat.le_of_ble_eq_true rfl) rfl <|
    V_goto (tat ok_X9_actSet_1 (i := 15) (q := 110) rfl rfl) rfl <|
    V_pick [1, 2, 3, 4, 0] rfl (hk a3 (jx (P := P) kk rfl))
def F_X9_actSet_17_1 (I : WI) (a1 : Int32) (a2 : Int32) (a5 : Int32) (a3 : Int64) (a6 : Int32) : Int64 :=
  (fun q : Int32 × Int64 => (F_X9_actSet_104_1 I a1 a2 a5 (p2 q))) (fr0 (fun i x => (F_X9_actSet_26_2 I a1 a2 a5 i x)) (I 33 1) (fu a6 (I 33 1)) a6 a3)
theorem V_X9_actSet_17_1  {I : WI} {L : WL} {a1 : Int32} {a2 : Int32} {a5 : Int32} {a3 : Int64} {a6 : Int32} {P : Int64 → Prop} {t : Tg} (hb6 : bz a6 = a6) (hk : ∀ x : Int64, P x → V (zM x_X9_actSet 2 0 0 t) 5 [(0, .ref 33), (1, .int a1), (2, .int a2), (3, .long x), (5, .int (a5 + 1))] [] ly0 I L R0 0 0) (kk : P (F_X9_actSet_17_1 I a1 a2 a5 a3 a6)) : V (zM x_X9_actSet 2 0 0 t) 17 [(0, .ref 33), (1, .int a1), (2, .int a2), (3, .long a3), (5, .int a5), (6, .int a6)] [] ly0 I L R0 0 0 :=
  V_fr0 (fun i x => (F_X9_actSet_26_2 I a1 a2 a5 i x)) (I 33 1) (fun i x => V (zM x_X9_actSet 2 0 0 t) 17 [(0, .ref 33), (1, .int a1), (2, .int a2), (3, .long x), (5, .int a5), (6, .int i)] [] ly0 I L R0 0 0) (fun i x => P ((F_X9_actSet_104_1 I a1 a2 a5 x))) (c := a6) (s := a3) (fun i x kx kb => V_iload (tat ok_X9_actSet_0 (i := 10) (q := 19) rfl rfl) 5 rfl <|
    V_aload_n (tat ok_X9_actSet_0 (i := 11) (q := 20) rfl rfl) 0 rfl rfl <|
    V_getI (tat ok_X9_actSet_0 (i := 12) (q := 23) rfl rfl) fk_X9_77 rfl <|
    V_icmp_ge (tat ok_X9_actSet_0 (i := 13) (q := 26) rfl rfl) rfl (fun c0 => V_pick [0, 1, 2, 3, 4] rfl (V_X9_actSet_104_1  hk (kx c0))) (fun c0 => V_X9_actSet_26_2 (P := (fun x => (fun i x => V (zM x_X9_actSet 2 0 0 t) 17 [(0, .ref 33), (1, .int a1), (2, .int a2), (3, .long x), (5, .int a5), (6, .int i)] [] ly0 I L R0 0 0) (i + 1) x))  (fun _ e => e) (kb c0))) kk
def F_X9_actSet_14_1 (I : WI) (a1 : Int32) (a2 : Int32) (a5 : Int32) (a3 : Int64) : Int64 :=
  (F_X9_actSet_17_1 I a1 a2 a5 a3 0)
theorem V_X9_actSet_14_1  {I : WI} {L : WL} {a1 : Int32} {a2 : Int32} {a5 : Int32} {a3 : Int64} {P : Int64 → Prop} {t : Tg} (hk : ∀ x : Int64, P x → V (zM x_X9_actSet 2 0 0 t) 5 [(0, .ref 33), (1, .int a1), (2, .int a2), (3, .long x), (5, .int (a5 + 1))] [] ly0 I L R0 0 0) (kk : P (F_X9_actSet_14_1 I a1 a2 a5 a3)) : V (zM x_X9_actSet 2 0 0 t) 14 [(0, .ref 33), (1, .int a1), (2, .int a2), (3, .long a3), (5, .int a5)] [] ly0 I L R0 0 0 :=
  V_iconst (tat ok_X9_actSet_0 (i := 8) (q := 15) rfl rfl) ic_0 <|
    V_istore (lv' := [(6, .int 0), (0, .ref 33), (1, .int a1), (2, .int a2), (3, .long a3), (5, .int a5)]) (tat ok_X9_actSet_0 (i := 9) (q := 17) rfl rfl) (Nat.le_of_ble_eq_true rfl) rfl <|
    V_pick [1, 2, 3, 4, 5, 0] rfl (V_X9_actSet_17_1 rfl hk (jx (P := P) kk rfl))
def F_X9_actSet_110 (I : WI) (a1 : Int32) (a2 : Int32) (a3 : Int64) : Int64 :=
  a3
theorem V_X9_actSet_110  {I : WI} {L : WL} {a1 : Int32} {a2 : Int32} {a3 : Int64} {P : Int64 → Prop} {t : Tg} (hr : ∀ v, P v → t = (some (.long v), ly0, I, L, R0)) (kk : P (F_X9_actSet_110 I a1 a2 a3)) : V (zM x_X9_actSet 2 0 0 t) 110 [(0, .ref 33), (1, .int a1), (2, .int a2), (3, .long a3)] [] ly0 I L R0 0 0 :=
  V_lload_n (tat ok_X9_actSet_1 (i := 16) (q := 111) rfl rfl) 3 rfl rfl <|
    V_lret (tat ok_X9_actSet_1 (i := 17) (q := 112) rfl rfl) rfl (hr a3 (jx (P := P) kk rfl)) ⟨(Nat.le_of_ble_eq_true rfl), (Nat.le_of_ble_eq_true rfl)⟩
def F_X9_actSet_5 (I : WI) (a1 : Int32) (a2 : Int32) (a3 : Int64) (a5 : Int32) : Int64 :=
  (fun q : Int32 × Int64 => (F_X9_actSet_110 I a1 a2 (p2 q))) (fr0 (fun i x => (F_X9_actSet_14_1 I a1 a2 i x)) (I 33 0) (fu a5 (I 33 0)) a5 a3)
theorem V_X9_actSet_5  {I : WI} {L : WL} {a1 : Int32} {a2 : Int32} {a3 : Int64} {a5 : Int32} {P : Int64 → Prop} {t : Tg} (hb5 : bz a5 = a5) (hr : ∀ v, P v → t = (some (.long v), ly0, I, L, R0)) (kk : P (F_X9_actSet_5 I a1 a2 a3 a5)) : V (zM x_X9_actSet 2 0 0 t) 5 [(0, .ref 33), (1, .int a1), (2, .int a2), (3, .long a3), (5, .int a5)] [] ly0 I L R0 0 0 :=
  V_fr0 (fun i x => (F_X9_actSet_14_1 I a1 a2 i x)) (I 33 0) (fun i x => V (zM x_X9_actSet 2 0 0 t) 5 [(0, .ref 33), (1, .int a1), (2, .int a2), (3, .long x), (5, .int i)] [] ly0 I L R0 0 0) (fun i x => P ((F_X9_actSet_110 I a1 a2 x))) (c := a5) (s := a3) (fun i x kx kb => V_iload (tat ok_X9_actSet_0 (i := 4) (q := 7) rfl rfl) 4 rfl <|
    V_aload_n (tat ok_X9_actSet_0 (i := 5) (q := 8) rfl rfl) 0 rfl rfl <|
    V_getI (tat ok_X9_actSet_0 (i := 6) (q := 11) rfl rfl) fk_X9_74 rfl <|
    V_icmp_ge (tat ok_X9_actSet_0 (i := 7) (q := 14) rfl rfl) rfl (fun c0 => V_pick [0, 1, 2, 3] rfl (V_X9_actSet_110  hr (kx c0))) (fun c0 => V_X9_actSet_14_1 (P := (fun x => (fun i x => V (zM x_X9_actSet 2 0 0 t) 5 [(0, .ref 33), (1, .int a1), (2, .int a2), (3, .long x), (5, .int i)] [] ly0 I L R0 0 0) (i + 1) x))  (fun _ e => e) (kb c0))) kk
def F_X9_actSet (I : WI) (a1 : Int32) (a2 : Int32) : Int64 :=
  (F_X9_actSet_5 I a1 a2 0 0)
theorem V_X9_actSet  {I : WI} {L : WL} {a1 : Int32} {a2 : Int32}  {P : Int64 → Prop} {t : Tg} (hr : ∀ v, P v → t = (some (.long v), ly0, I, L, R0)) (kk : P (F_X9_actSet I a1 a2)) : V (zM x_X9_actSet 2 0 0 t) 0 [(0, .ref 33), (1, .int a1), (2, .int a2)] [] ly0 I L R0 0 0 :=
  V_lconst (v := 0) (tat ok_X9_actSet_0 (i := 0) (q := 1) rfl rfl) rfl <|
    V_lstore_n (lv' := [(3, .long 0), (0, .ref 33), (1, .int a1), (2, .int a2)]) (tat ok_X9_actSet_0 (i := 1) (q := 2) rfl rfl) rfl (Nat.le_of_ble_eq_true rfl) rfl <|
    V_iconst (tat ok_X9_actSet_0 (i := 2) (q := 3) rfl rfl) ic_0 <|
    V_istore (lv' := [(5, .int 0), (3, .long 0), (0, .ref 33), (1, .int a1), (2, .int a2)]) (tat ok_X9_actSet_0 (i := 3) (q := 5) rfl rfl) (Nat.le_of_ble_eq_true rfl) rfl <|
    V_pick [2, 3, 4, 1, 0] rfl (V_X9_actSet_5 rfl hr (jx (P := P) kk rfl))
theorem ct_X9_actSet  (I : WI) (L : WL) (a1 : Int32) (a2 : Int32)  : Ct x_X9_actSet 2 [.ref 33, .int a1, .int a2] ly0 I L R0 0 0 (some (.long (F_X9_actSet I a1 a2)), ly0, I, L, R0) :=
  Ct_of_V mo_X9_actSet.1 (Nat.le_of_ble_eq_true rfl) (V_X9_actSet (P := fun x => x = (F_X9_actSet I a1 a2))  (fun _ e => by rw [e]) rfl)
def F_X9_turnSet_53_2 (I : WI) (a1 : Int32) (a2 : Int32) (a5 : Int32) (a6 : Int32) (s0 : Int64) (s1 : Int64) : Int64 :=
  (s1 ||| s0)
theorem V_X9_turnSet_53_2  {I : WI} {L : WL} {a1 : Int32} {a2 : Int32} {a5 : Int32} {a6 : Int32} {s0 : Int64} {s1 : Int64} {P : Int64 → Prop} {t : Tg} (hk : ∀ x : Int64, P x → V (zM x_X9_turnSet 2 0 0 t) 17 [(0, .ref 33), (1, .int a1), (2, .int a2), (3, .long x), (5, .int a5), (6, .int (a6 + 1))] [] ly0 I L R0 0 0) (kk : P (F_X9_turnSet_53_2 I a1 a2 a5 a6 s0 s1)) : V (zM x_X9_turnSet 2 0 0 t) 53 [(0, .ref 33), (1, .int a1), (2, .int a2), (5, .int a5), (6, .int a6)] [.long s0, .long s1] ly0 I L R0 0 0 :=
  V_lor (tat ok_X9_turnSet_0 (i := 31) (q := 54) rfl rfl) <|
    V_lstore_n (lv' := [(3, .long (s1 ||| s0)), (0, .ref 33), (1, .int a1), (2, .int a2), (5, .int a5), (6, .int a6)]) (tat ok_X9_turnSet_0 (i := 32) (q := 55) rfl rfl) rfl (Nat.le_of_ble_eq_true rfl) rfl <|
    V_iinc (v := (a6 + 1)) (lv' := [(6, .int (a6 + 1)), (3, .long (s1 ||| s0)), (0, .ref 33), (1, .int a1), (2, .int a2), (5, .int a5)]) (tat ok_X9_turnSet_0 (i := 33) (q := 58) rfl rfl) 5 rfl (ia ic_1) (Nat.le_of_ble_eq_true rfl) rfl <|
    V_goto (tat ok_X9_turnSet_0 (i := 34) (q := 61) rfl rfl) rfl <|
    V_pick [2, 3, 4, 1, 5, 0] rfl (hk (s1 ||| s0) (jx (P := P) kk rfl))
def F_X9_turnSet_26_2 (I : WI) (a1 : Int32) (a2 : Int32) (a5 : Int32) (a6 : Int32) (a3 : Int64) : Int64 :=
  (if (((a1 >>> (a5 &&& 31)) ^^^ (a2 >>> (a6 &&& 31))) &&& 1) = 1 then (F_X9_turnSet_53_2 I a1 a2 a5 a6 (F_X9_bitOf a5 a6) a3) else (F_X9_turnSet_53_2 I a1 a2 a5 a6 0 a3))
theorem V_X9_turnSet_26_2  {I : WI} {L : WL} {a1 : Int32} {a2 : Int32} {a5 : Int32} {a6 : Int32} {a3 : Int64} {P : Int64 → Prop} {t : Tg} (hk : ∀ x : Int64, P x → V (zM x_X9_turnSet 2 0 0 t) 17 [(0, .ref 33), (1, .int a1), (2, .int a2), (3, .long x), (5, .int a5), (6, .int (a6 + 1))] [] ly0 I L R0 0 0) (kk : P (F_X9_turnSet_26_2 I a1 a2 a5 a6 a3)) : V (zM x_X9_turnSet 2 0 0 t) 26 [(0, .ref 33), (1, .int a1), (2, .int a2), (3, .long a3), (5, .int a5), (6, .int a6)] [] ly0 I L R0 0 0 :=
  V_lload_n (tat ok_X9_turnSet_0 (i := 14) (q := 27) rfl rfl) 3 rfl rfl <|
    V_iload_n (tat ok_X9_turnSet_0 (i := 15) (q := 28) rfl rfl) 1 rfl rfl <|
    V_iload (tat ok_X9_turnSet_0 (i := 16) (q := 30) rfl rfl) 4 rfl <|
    V_ishr (tat ok_X9_turnSet_0 (i := 17) (q := 31) rfl rfl) <|
    V_iload_n (tat ok_X9_turnSet_0 (i := 18) (q := 32) rfl rfl) 2 rfl rfl <|
    V_iload (tat ok_X9_turnSet_0 (i := 19) (q := 34) rfl rfl) 5 rfl <|
    V_ishr (tat ok_X9_turnSet_0 (i := 20) (q := 35) rfl rfl) <|
    V_ixor (tat ok_X9_turnSet_0 (i := 21) (q := 36) rfl rfl) <|
    V_iconst (tat ok_X9_turnSet_0 (i := 22) (q := 37) rfl rfl) ic_1 <|
    V_iand (tat ok_X9_turnSet_0 (i := 23) (q := 38) rfl rfl) <|
    V_iconst (tat ok_X9_turnSet_0 (i := 24) (q := 39) rfl rfl) ic_1 <|
    V_icmp_ne (tat ok_X9_turnSet_0 (i := 25) (q := 42) rfl rfl) rfl (fun c1 => V_lconst (v := 0) (tat ok_X9_turnSet_0 (i := 30) (q := 53) rfl rfl) rfl <|
    V_pick [0, 1, 2, 4, 5] rfl (V_X9_turnSet_53_2  hk (jx (P := P) kk (if_neg c1)))) (fun c1 => V_iload (tat ok_X9_turnSet_0 (i := 26) (q := 44) rfl rfl) 4 rfl <|
    V_iload (tat ok_X9_turnSet_0 (i := 27) (q := 46) rfl rfl) 5 rfl <|
    V_cs2 (ct_X9_bitOf I L a5 a6 ) mo_X9_bitOf (tat ok_X9_turnSet_0 (i := 28) (q := 49) rfl rfl) ml_X9_155 ⟨(Nat.le_of_ble_eq_true rfl), (Nat.le_of_ble_eq_true rfl)⟩ ⟨(Nat.le_of_ble_eq_true rfl), (Nat.le_of_ble_eq_true rfl)⟩ (Nat.le_of_ble_eq_true rfl) <|
    V_goto (tat ok_X9_turnSet_0 (i := 29) (q := 52) rfl rfl) rfl <|
    V_pick [0, 1, 2, 4, 5] rfl (V_X9_turnSet_53_2  hk (jx (P := P) kk (if_pos c1))))
def F_X9_turnSet_61_1 (I : WI) (a1 : Int32) (a2 : Int32) (a5 : Int32) (a3 : Int64) : Int64 :=
  a3
theorem V_X9_turnSet_61_1  {I : WI} {L : WL} {a1 : Int32} {a2 : Int32} {a5 : Int32} {a3 : Int64} {P : Int64 → Prop} {t : Tg} (hk : ∀ x : Int64, P x → V (zM x_X9_turnSet 2 0 0 t) 5 [(0, .ref 33), (1, .int a1), (2, .int a2), (3, .long x), (5, .int (a5 + 1))] [] ly0 I L R0 0 0) (kk : P (F_X9_turnSet_61_1 I a1 a2 a5 a3)) : V (zM x_X9_turnSet 2 0 0 t) 61 [(0, .ref 33), (1, .int a1), (2, .int a2), (3, .long a3), (5, .int a5)] [] ly0 I L R0 0 0 :=
  V_iinc (v := (a5 + 1)) (lv' := [(5, .int (a5 + 1)), (0, .ref 33), (1, .int a1), (2, .int a2), (3, .long a3)]) (tat ok_X9_turnSet_0 (i := 35) (q := 64) rfl rfl) 4 rfl (ia ic_1) (Nat.le_of_ble_eq_true rfl) rfl <|
    V_goto (tat ok_X9_turnSet_0 (i := 36) (q := 67) rfl rfl) rfl <|
    V_pick [1, 2, 3, 4, 0] rfl (hk a3 (jx (P := P) kk rfl))
def F_X9_turnSet_17_1 (I : WI) (a1 : Int32) (a2 : Int32) (a5 : Int32) (a3 : Int64) (a6 : Int32) : Int64 :=
  (fun q : Int32 × Int64 => (F_X9_turnSet_61_1 I a1 a2 a5 (p2 q))) (fr0 (fun i x => (F_X9_turnSet_26_2 I a1 a2 a5 i x)) (I 33 1) (fu a6 (I 33 1)) a6 a3)
theorem V_X9_turnSet_17_1  {I : WI} {L : WL} {a1 : Int32} {a2 : Int32} {a5 : Int32} {a3 : Int64} {a6 : Int32} {P : Int64 → Prop} {t : Tg} (hb6 : bz a6 = a6) (hk : ∀ x : Int64, P x → V (zM x_X9_turnSet 2 0 0 t) 5 [(0, .ref 33), (1, .int a1), (2, .int a2), (3, .long x), (5, .int (a5 + 1))] [] ly0 I L R0 0 0) (kk : P (F_X9_turnSet_17_1 I a1 a2 a5 a3 a6)) : V (zM x_X9_turnSet 2 0 0 t) 17 [(0, .ref 33), (1, .int a1), (2, .int a2), (3, .long a3), (5, .int a5), (6, .int a6)] [] ly0 I L R0 0 0 :=
  V_fr0 (fun i x => (F_X9_turnSet_26_2 I a1 a2 a5 i x)) (I 33 1) (fun i x => V (zM x_X9_turnSet 2 0 0 t) 17 [(0, .ref 33), (1, .int a1), (2, .int a2), (3, .long x), (5, .int a5), (6, .int i)] [] ly0 I L R0 0 0) (fun i x => P ((F_X9_turnSet_61_1 I a1 a2 a5 x))) (c := a6) (s := a3) (fun i x kx kb => V_iload (tat ok_X9_turnSet_0 (i := 10) (q := 19) rfl rfl) 5 rfl <|
    V_aload_n (tat ok_X9_turnSet_0 (i := 11) (q := 20) rfl rfl) 0 rfl rfl <|
    V_getI (tat ok_X9_turnSet_0 (i := 12) (q := 23) rfl rfl) fk_X9_77 rfl <|
    V_icmp_ge (tat ok_X9_turnSet_0 (i := 13) (q := 26) rfl rfl) rfl (fun c0 => V_pick [0, 1, 2, 3, 4] rfl (V_X9_turnSet_61_1  hk (kx c0))) (fun c0 => V_X9_turnSet_26_2 (P := (fun x => (fun i x => V (zM x_X9_turnSet 2 0 0 t) 17 [(0, .ref 33), (1, .int a1), (2, .int a2), (3, .long x), (5, .int a5), (6, .int i)] [] ly0 I L R0 0 0) (i + 1) x))  (fun _ e => e) (kb c0))) kk
def F_X9_turnSet_14_1 (I : WI) (a1 : Int32) (a2 : Int32) (a5 : Int32) (a3 : Int64) : Int64 :=
  (F_X9_turnSet_17_1 I a1 a2 a5 a3 0)
theorem V_X9_turnSet_14_1  {I : WI} {L : WL} {a1 : Int32} {a2 : Int32} {a5 : Int32} {a3 : Int64} {P : Int64 → Prop} {t : Tg} (hk : ∀ x : Int64, P x → V (zM x_X9_turnSet 2 0 0 t) 5 [(0, .ref 33), (1, .int a1), (2, .int a2), (3, .long x), (5, .int (a5 + 1))] [] ly0 I L R0 0 0) (kk : P (F_X9_turnSet_14_1 I a1 a2 a5 a3)) : V (zM x_X9_turnSet 2 0 0 t) 14 [(0, .ref 33), (1, .int a1), (2, .int a2), (3, .long a3), (5, .int a5)] [] ly0 I L R0 0 0 :=
  V_iconst (tat ok_X9_turnSet_0 (i := 8) (q := 15) rfl rfl) ic_0 <|
    V_istore (lv' := [(6, .int 0), (0, .ref 33), (1, .int a1), (2, .int a2), (3, .long a3), (5, .int a5)]) (tat ok_X9_turnSet_0 (i := 9) (q := 17) rfl rfl) (Nat.le_of_ble_eq_true rfl) rfl <|
    V_pick [1, 2, 3, 4, 5, 0] rfl (V_X9_turnSet_17_1 rfl hk (jx (P := P) kk rfl))
def F_X9_turnSet_67 (I : WI) (a1 : Int32) (a2 : Int32) (a3 : Int64) : Int64 :=
  a3
theorem V_X9_turnSet_67  {I : WI} {L : WL} {a1 : Int32} {a2 : Int32} {a3 : Int64} {P : Int64 → Prop} {t : Tg} (hr : ∀ v, P v → t = (some (.long v), ly0, I, L, R0)) (kk : P (F_X9_turnSet_67 I a1 a2 a3)) : V (zM x_X9_turnSet 2 0 0 t) 67 [(0, .ref 33), (1, .int a1), (2, .int a2), (3, .long a3)] [] ly0 I L R0 0 0 :=
  V_lload_n (tat ok_X9_turnSet_0 (i := 37) (q := 68) rfl rfl) 3 rfl rfl <|
    V_lret (tat ok_X9_turnSet_0 (i := 38) (q := 69) rfl rfl) rfl (hr a3 (jx (P := P) kk rfl)) ⟨(Nat.le_of_ble_eq_true rfl), (Nat.le_of_ble_eq_true rfl)⟩
def F_X9_turnSet_5 (I : WI) (a1 : Int32) (a2 : Int32) (a3 : Int64) (a5 : Int32) : Int64 :=
  (fun q : Int32 × Int64 => (F_X9_turnSet_67 I a1 a2 (p2 q))) (fr0 (fun i x => (F_X9_turnSet_14_1 I a1 a2 i x)) (I 33 0) (fu a5 (I 33 0)) a5 a3)
theorem V_X9_turnSet_5  {I : WI} {L : WL} {a1 : Int32} {a2 : Int32} {a3 : Int64} {a5 : Int32} {P : Int64 → Prop} {t : Tg} (hb5 : bz a5 = a5) (hr : ∀ v, P v → t = (some (.long v), ly0, I, L, R0)) (kk : P (F_X9_turnSet_5 I a1 a2 a3 a5)) : V (zM x_X9_turnSet 2 0 0 t) 5 [(0, .ref 33), (1, .int a1), (2, .int a2), (3, .long a3), (5, .int a5)] [] ly0 I L R0 0 0 :=
  V_fr0 (fun i x => (F_X9_turnSet_14_1 I a1 a2 i x)) (I 33 0) (fun i x => V (zM x_X9_turnSet 2 0 0 t) 5 [(0, .ref 33), (1, .int a1), (2, .int a2), (3, .long x), (5, .int i)] [] ly0 I L R0 0 0) (fun i x => P ((F_X9_turnSet_67 I a1 a2 x))) (c := a5) (s := a3) (fun i x kx kb => V_iload (tat ok_X9_turnSet_0 (i := 4) (q := 7) rfl rfl) 4 rfl <|
    V_aload_n (tat ok_X9_turnSet_0 (i := 5) (q := 8) rfl rfl) 0 rfl rfl <|
    V_getI (tat ok_X9_turnSet_0 (i := 6) (q := 11) rfl rfl) fk_X9_74 rfl <|
    V_icmp_ge (tat ok_X9_turnSet_0 (i := 7) (q := 14) rfl rfl) rfl (fun c0 => V_pick [0, 1, 2, 3] rfl (V_X9_turnSet_67  hr (kx c0))) (fun c0 => V_X9_turnSet_14_1 (P := (fun x => (fun i x => V (zM x_X9_turnSet 2 0 0 t) 5 [(0, .ref 33), (1, .int a1), (2, .int a2), (3, .long x), (5, .int i)] [] ly0 I L R0 0 0) (i + 1) x))  (fun _ e => e) (kb c0))) kk
def F_X9_turnSet (I : WI) (a1 : Int32) (a2 : Int32) : Int64 :=
  (F_X9_turnSet_5 I a1 a2 0 0)
theorem V_X9_turnSet  {I : WI} {L : WL} {a1 : Int32} {a2 : Int32}  {P : Int64 → Prop} {t : Tg} (hr : ∀ v, P v → t = (some (.long v), ly0, I, L, R0)) (kk : P (F_X9_turnSet I a1 a2)) : V (zM x_X9_turnSet 2 0 0 t) 0 [(0, .ref 33), (1, .int a1), (2, .int a2)] [] ly0 I L R0 0 0 :=
  V_lconst (v := 0) (tat ok_X9_turnSet_0 (i := 0) (q := 1) rfl rfl) rfl <|
    V_lstore_n (lv' := [(3, .long 0), (0, .ref 33), (1, .int a1), (2, .int a2)]) (tat ok_X9_turnSet_0 (i := 1) (q := 2) rfl rfl) rfl (Nat.le_of_ble_eq_true rfl) rfl <|
    V_iconst (tat ok_X9_turnSet_0 (i := 2) (q := 3) rfl rfl) ic_0 <|
    V_istore (lv' := [(5, .int 0), (3, .long 0), (0, .ref 33), (1, .int a1), (2, .int a2)]) (tat ok_X9_turnSet_0 (i := 3) (q := 5) rfl rfl) (Nat.le_of_ble_eq_true rfl) rfl <|
    V_pick [2, 3, 4, 1, 0] rfl (V_X9_turnSet_5 rfl hr (jx (P := P) kk rfl))
theorem ct_X9_turnSet  (I : WI) (L : WL) (a1 : Int32) (a2 : Int32)  : Ct x_X9_turnSet 2 [.ref 33, .int a1, .int a2] ly0 I L R0 0 0 (some (.long (F_X9_turnSet I a1 a2)), ly0, I, L, R0) :=
  Ct_of_V mo_X9_turnSet.1 (Nat.le_of_ble_eq_true rfl) (V_X9_turnSet (P := fun x => x = (F_X9_turnSet I a1 a2))  (fun _ e => by rw [e]) rfl)
def F_X9_isAct (I : WI) (a1 : Int32) (a2 : Int32) : Option Int32 :=
  (if bz (F_X9_isActOf a1 a2 (I 33 0) (I 33 1)) = (F_X9_isActOf a1 a2 (I 33 0) (I 33 1)) then some (F_X9_isActOf a1 a2 (I 33 0) (I 33 1)) else none)
theorem V_X9_isAct  {I : WI} {L : WL} {a1 : Int32} {a2 : Int32}  {P : Int32 → Prop} {t : Tg} (hr : ∀ v, P v → t = (some (.int v), ly0, I, L, R0)) : oP P (F_X9_isAct I a1 a2) → V (zM x_X9_isAct 3 0 0 t) 0 [(0, .ref 33), (1, .int a1), (2, .int a2)] [] ly0 I L R0 0 0 :=
  fun _ =>
  have kq : (oP P (F_X9_isAct I a1 a2)) ∧ True := ⟨by assumption, trivial⟩
  V_iload_n (tat ok_X9_isAct_0 (i := 0) (q := 1) rfl rfl) 1 rfl rfl <|
    V_iload_n (tat ok_X9_isAct_0 (i := 1) (q := 2) rfl rfl) 2 rfl rfl <|
    V_aload_n (tat ok_X9_isAct_0 (i := 2) (q := 3) rfl rfl) 0 rfl rfl <|
    V_getI (tat ok_X9_isAct_0 (i := 3) (q := 6) rfl rfl) fk_X9_74 rfl <|
    V_aload_n (tat ok_X9_isAct_0 (i := 4) (q := 7) rfl rfl) 0 rfl rfl <|
    V_getI (tat ok_X9_isAct_0 (i := 5) (q := 10) rfl rfl) fk_X9_77 rfl <|
    V_cs4 (ct_X9_isActOf I L a1 a2 (I 33 0) (I 33 1) ) mo_X9_isActOf (tat ok_X9_isAct_0 (i := 6) (q := 13) rfl rfl) ml_X9_191 ⟨(Nat.le_of_ble_eq_true rfl), (Nat.le_of_ble_eq_true rfl)⟩ ⟨(Nat.le_of_ble_eq_true rfl), (Nat.le_of_ble_eq_true rfl)⟩ (Nat.le_of_ble_eq_true rfl) <|
    (if c1 : bz (F_X9_isActOf a1 a2 (I 33 0) (I 33 1)) = (F_X9_isActOf a1 a2 (I 33 0) (I 33 1)) then V_iret (tat ok_X9_isAct_0 (i := 7) (q := 14) rfl rfl) _ rfl (bz_nf c1).1 (hr (F_X9_isActOf a1 a2 (I 33 0) (I 33 1)) (jq (P := oP P) kq (if_pos c1))) ⟨(Nat.le_of_ble_eq_true rfl), (Nat.le_of_ble_eq_true rfl)⟩ else ((jq (P := oP P) kq (if_neg c1))).elim)
theorem ct_X9_isAct  (I : WI) (L : WL) (a1 : Int32) (a2 : Int32)  {v : Int32} (h : (F_X9_isAct I a1 a2) = some v) : Ct x_X9_isAct 3 [.ref 33, .int a1, .int a2] ly0 I L R0 0 0 (some (.int v), ly0, I, L, R0) :=
  Ct_of_V mo_X9_isAct.1 (Nat.le_of_ble_eq_true rfl) (V_X9_isAct (P := fun x => x = v)  (fun _ e => by rw [e]) (by rw [h]; exact rfl))
def F_X9_act (I : WI) (L : WL) (a1 : Int32) (a2 : Int32) : Option (Int32 × WL) :=
  (Option.bind (F_X9_isAct I a1 a2) (fun v1 => (if v1 = 0 then some ((-1), L) else some ((F_X9_many ((u2 L 33 2 ((L 33 2) ^^^ (F_X9_actSet I a1 a2))) 33 2)), (u2 L 33 2 ((L 33 2) ^^^ (F_X9_actSet I a1 a2)))))))
theorem V_X9_act  {I : WI} {L : WL} {a1 : Int32} {a2 : Int32}  {P : (Int32 × WL) → Prop} {t : Tg} (hr : ∀ v, P v → t = (some (.int (p1 v)), ly0, I, (p2 v), R0)) : oP P (F_X9_act I L a1 a2) → V (zM x_X9_act 4 0 0 t) 0 [(0, .ref 33), (1, .int a1), (2, .int a2)] [] ly0 I L R0 0 0 :=
  fun _ =>
  have kq : (oP P (F_X9_act I L a1 a2)) ∧ True := ⟨by assumption, trivial⟩
  V_aload_n (tat ok_X9_act_0 (i := 0) (q := 1) rfl rfl) 0 rfl rfl <|
    V_iload_n (tat ok_X9_act_0 (i := 1) (q := 2) rfl rfl) 1 rfl rfl <|
    V_iload_n (tat ok_X9_act_0 (i := 2) (q := 3) rfl rfl) 2 rfl rfl <|
    oP_case (jq (P := oP P) kq rfl) (fun v1 e1 _ => V_cv2 (ct_X9_isAct I L a1 a2  e1) mo_X9_isAct (tat ok_X9_act_0 (i := 3) (q := 6) rfl rfl) ml_X9_214 rfl ⟨by decide, _, rfl, rfl⟩ ⟨(Nat.le_of_ble_eq_true rfl), (Nat.le_of_ble_eq_true rfl)⟩ ⟨(Nat.le_of_ble_eq_true rfl), (Nat.le_of_ble_eq_true rfl)⟩ (Nat.le_of_ble_eq_true rfl) <|
    V_if_ne (tat ok_X9_act_0 (i := 4) (q := 9) rfl rfl) rfl (fun c2 => V_aload_n (tat ok_X9_act_0 (i := 7) (q := 12) rfl rfl) 0 rfl rfl <|
    V_dup (tat ok_X9_act_0 (i := 8) (q := 13) rfl rfl) rfl <|
    V_getL (tat ok_X9_act_0 (i := 9) (q := 16) rfl rfl) fk_X9_80 rfl <|
    V_aload_n (tat ok_X9_act_0 (i := 10) (q := 17) rfl rfl) 0 rfl rfl <|
    V_iload_n (tat ok_X9_act_0 (i := 11) (q := 18) rfl rfl) 1 rfl rfl <|
    V_iload_n (tat ok_X9_act_0 (i := 12) (q := 19) rfl rfl) 2 rfl rfl <|
    V_cv2 (ct_X9_actSet I L a1 a2 ) mo_X9_actSet (tat ok_X9_act_0 (i := 13) (q := 22) rfl rfl) ml_X9_217 rfl ⟨by decide, _, rfl, rfl⟩ ⟨(Nat.le_of_ble_eq_true rfl), (Nat.le_of_ble_eq_true rfl)⟩ ⟨(Nat.le_of_ble_eq_true rfl), (Nat.le_of_ble_eq_true rfl)⟩ (Nat.le_of_ble_eq_true rfl) <|
    V_lxor (tat ok_X9_act_0 (i := 14) (q := 23) rfl rfl) <|
    V_putL (tat ok_X9_act_0 (i := 15) (q := 26) rfl rfl) fk_X9_80 rfl rfl <|
    V_aload_n (tat ok_X9_act_0 (i := 16) (q := 27) rfl rfl) 0 rfl rfl <|
    V_getL (tat ok_X9_act_0 (i := 17) (q := 30) rfl rfl) fk_X9_80 rfl <|
    V_cs1 (ct_X9_many I (u2 L 33 2 ((L 33 2) ^^^ (F_X9_actSet I a1 a2))) ((u2 L 33 2 ((L 33 2) ^^^ (F_X9_actSet I a1 a2))) 33 2) ) mo_X9_many (tat ok_X9_act_0 (i := 18) (q := 33) rfl rfl) ml_X9_220 ⟨(Nat.le_of_ble_eq_true rfl), (Nat.le_of_ble_eq_true rfl)⟩ ⟨(Nat.le_of_ble_eq_true rfl), (Nat.le_of_ble_eq_true rfl)⟩ (Nat.le_of_ble_eq_true rfl) <|
    V_iret (tat ok_X9_act_0 (i := 19) (q := 34) rfl rfl) _ rfl (nar_int _) (hr ((F_X9_many ((u2 L 33 2 ((L 33 2) ^^^ (F_X9_actSet I a1 a2))) 33 2)), (u2 L 33 2 ((L 33 2) ^^^ (F_X9_actSet I a1 a2)))) (jq (P := oP P) kq (Eq.trans (ob e1) (if_neg c2)))) ⟨(Nat.le_of_ble_eq_true rfl), (Nat.le_of_ble_eq_true rfl)⟩) (fun c2 => V_iconst (tat ok_X9_act_0 (i := 5) (q := 10) rfl rfl) ic_m1 <|
    V_iret (tat ok_X9_act_0 (i := 6) (q := 11) rfl rfl) _ rfl (nar_int _) (hr ((-1), L) (jq (P := oP P) kq (Eq.trans (ob e1) (if_pos c2)))) ⟨(Nat.le_of_ble_eq_true rfl), (Nat.le_of_ble_eq_true rfl)⟩))
theorem ct_X9_act  (I : WI) (L : WL) (a1 : Int32) (a2 : Int32)  {v : (Int32 × WL)} (h : (F_X9_act I L a1 a2) = some v) : Ct x_X9_act 4 [.ref 33, .int a1, .int a2] ly0 I L R0 0 0 (some (.int (p1 v)), ly0, I, (p2 v), R0) :=
  Ct_of_V mo_X9_act.1 (Nat.le_of_ble_eq_true rfl) (V_X9_act (P := fun x => x = v)  (fun _ e => by rw [e]) (by rw [h]; exact rfl))
def F_X9_turn_36 (I : WI) (L : WL) (a1 : Int32) (a2 : Int32) : (Int32 × WL) :=
  ((-1), L)
theorem V_X9_turn_36  {I : WI} {L : WL} {a1 : Int32} {a2 : Int32}  {P : (Int32 × WL) → Prop} {t : Tg} (hr : ∀ v, P v → t = (some (.int (p1 v)), ly0, I, (p2 v), R0)) (kk : P (F_X9_turn_36 I L a1 a2)) : V (zM x_X9_turn 3 0 0 t) 36 [(0, .ref 33), (1, .int a1), (2, .int a2)] [] ly0 I L R0 0 0 :=
  V_iconst (tat ok_X9_turn_0 (i := 24) (q := 37) rfl rfl) ic_m1 <|
    V_iret (tat ok_X9_turn_0 (i := 25) (q := 38) rfl rfl) _ rfl (nar_int _) (hr ((-1), L) (jx (P := P) kk rfl)) ⟨(Nat.le_of_ble_eq_true rfl), (Nat.le_of_ble_eq_true rfl)⟩
def F_X9_turn (I : WI) (L : WL) (a1 : Int32) (a2 : Int32) : (Int32 × WL) :=
  (if (F_X9_in (Int32.toInt64 a1) 0 (Int32.toInt64 ((1 <<< ((I 33 0) &&& 31)) - 1))) = 0 then (F_X9_turn_36 I L a1 a2) else (if (F_X9_in (Int32.toInt64 a2) 0 (Int32.toInt64 ((1 <<< ((I 33 1) &&& 31)) - 1))) = 0 then (F_X9_turn_36 I L a1 a2) else ((F_X9_many ((u2 L 33 2 ((L 33 2) ^^^ (F_X9_turnSet I a1 a2))) 33 2)), (u2 L 33 2 ((L 33 2) ^^^ (F_X9_turnSet I a1 a2))))))
theorem V_X9_turn  {I : WI} {L : WL} {a1 : Int32} {a2 : Int32}  {P : (Int32 × WL) → Prop} {t : Tg} (hr : ∀ v, P v → t = (some (.int (p1 v)), ly0, I, (p2 v), R0)) (kk : P (F_X9_turn I L a1 a2)) : V (zM x_X9_turn 3 0 0 t) 0 [(0, .ref 33), (1, .int a1), (2, .int a2)] [] ly0 I L R0 0 0 :=
  V_iload_n (tat ok_X9_turn_0 (i := 0) (q := 1) rfl rfl) 1 rfl rfl <|
    V_i2l (tat ok_X9_turn_0 (i := 1) (q := 2) rfl rfl) <|
    V_lconst (v := 0) (tat ok_X9_turn_0 (i := 2) (q := 3) rfl rfl) rfl <|
    V_iconst (tat ok_X9_turn_0 (i := 3) (q := 4) rfl rfl) ic_1 <|
    V_aload_n (tat ok_X9_turn_0 (i := 4) (q := 5) rfl rfl) 0 rfl rfl <|
    V_getI (tat ok_X9_turn_0 (i := 5) (q := 8) rfl rfl) fk_X9_74 rfl <|
    V_ishl (tat ok_X9_turn_0 (i := 6) (q := 9) rfl rfl) <|
    V_iconst (tat ok_X9_turn_0 (i := 7) (q := 10) rfl rfl) ic_1 <|
    V_isub (tat ok_X9_turn_0 (i := 8) (q := 11) rfl rfl) <|
    V_i2l (tat ok_X9_turn_0 (i := 9) (q := 12) rfl rfl) <|
    V_cs3 (ct_X9_in I L (Int32.toInt64 a1) 0 (Int32.toInt64 ((1 <<< ((I 33 0) &&& 31)) - 1)) ) mo_X9_in (tat ok_X9_turn_0 (i := 10) (q := 15) rfl rfl) ml_X9_97 ⟨(Nat.le_of_ble_eq_true rfl), (Nat.le_of_ble_eq_true rfl)⟩ ⟨(Nat.le_of_ble_eq_true rfl), (Nat.le_of_ble_eq_true rfl)⟩ (Nat.le_of_ble_eq_true rfl) <|
    V_if_eq (tat ok_X9_turn_0 (i := 11) (q := 18) rfl rfl) rfl (fun c1 => V_X9_turn_36  hr (jx (P := P) kk (if_pos c1))) (fun c1 => V_iload_n (tat ok_X9_turn_0 (i := 12) (q := 19) rfl rfl) 2 rfl rfl <|
    V_i2l (tat ok_X9_turn_0 (i := 13) (q := 20) rfl rfl) <|
    V_lconst (v := 0) (tat ok_X9_turn_0 (i := 14) (q := 21) rfl rfl) rfl <|
    V_iconst (tat ok_X9_turn_0 (i := 15) (q := 22) rfl rfl) ic_1 <|
    V_aload_n (tat ok_X9_turn_0 (i := 16) (q := 23) rfl rfl) 0 rfl rfl <|
    V_getI (tat ok_X9_turn_0 (i := 17) (q := 26) rfl rfl) fk_X9_77 rfl <|
    V_ishl (tat ok_X9_turn_0 (i := 18) (q := 27) rfl rfl) <|
    V_iconst (tat ok_X9_turn_0 (i := 19) (q := 28) rfl rfl) ic_1 <|
    V_isub (tat ok_X9_turn_0 (i := 20) (q := 29) rfl rfl) <|
    V_i2l (tat ok_X9_turn_0 (i := 21) (q := 30) rfl rfl) <|
    V_cs3 (ct_X9_in I L (Int32.toInt64 a2) 0 (Int32.toInt64 ((1 <<< ((I 33 1) &&& 31)) - 1)) ) mo_X9_in (tat ok_X9_turn_0 (i := 22) (q := 33) rfl rfl) ml_X9_97 ⟨(Nat.le_of_ble_eq_true rfl), (Nat.le_of_ble_eq_true rfl)⟩ ⟨(Nat.le_of_ble_eq_true rfl), (Nat.le_of_ble_eq_true rfl)⟩ (Nat.le_of_ble_eq_true rfl) <|
    V_if_ne (tat ok_X9_turn_0 (i := 23) (q := 36) rfl rfl) rfl (fun c2 => V_aload_n (tat ok_X9_turn_0 (i := 26) (q := 39) rfl rfl) 0 rfl rfl <|
    V_dup (tat ok_X9_turn_0 (i := 27) (q := 40) rfl rfl) rfl <|
    V_getL (tat ok_X9_turn_0 (i := 28) (q := 43) rfl rfl) fk_X9_80 rfl <|
    V_aload_n (tat ok_X9_turn_0 (i := 29) (q := 44) rfl rfl) 0 rfl rfl <|
    V_iload_n (tat ok_X9_turn_0 (i := 30) (q := 45) rfl rfl) 1 rfl rfl <|
    V_iload_n (tat ok_X9_turn_0 (i := 31) (q := 46) rfl rfl) 2 rfl rfl <|
    V_cv2 (ct_X9_turnSet I L a1 a2 ) mo_X9_turnSet (tat ok_X9_turn_0 (i := 32) (q := 49) rfl rfl) ml_X9_224 rfl ⟨by decide, _, rfl, rfl⟩ ⟨(Nat.le_of_ble_eq_true rfl), (Nat.le_of_ble_eq_true rfl)⟩ ⟨(Nat.le_of_ble_eq_true rfl), (Nat.le_of_ble_eq_true rfl)⟩ (Nat.le_of_ble_eq_true rfl) <|
    V_lxor (tat ok_X9_turn_0 (i := 33) (q := 50) rfl rfl) <|
    V_putL (tat ok_X9_turn_0 (i := 34) (q := 53) rfl rfl) fk_X9_80 rfl rfl <|
    V_aload_n (tat ok_X9_turn_0 (i := 35) (q := 54) rfl rfl) 0 rfl rfl <|
    V_getL (tat ok_X9_turn_0 (i := 36) (q := 57) rfl rfl) fk_X9_80 rfl <|
    V_cs1 (ct_X9_many I (u2 L 33 2 ((L 33 2) ^^^ (F_X9_turnSet I a1 a2))) ((u2 L 33 2 ((L 33 2) ^^^ (F_X9_turnSet I a1 a2))) 33 2) ) mo_X9_many (tat ok_X9_turn_0 (i := 37) (q := 60) rfl rfl) ml_X9_220 ⟨(Nat.le_of_ble_eq_true rfl), (Nat.le_of_ble_eq_true rfl)⟩ ⟨(Nat.le_of_ble_eq_true rfl), (Nat.le_of_ble_eq_true rfl)⟩ (Nat.le_of_ble_eq_true rfl) <|
    V_iret (tat ok_X9_turn_0 (i := 38) (q := 61) rfl rfl) _ rfl (nar_int _) (hr ((F_X9_many ((u2 L 33 2 ((L 33 2) ^^^ (F_X9_turnSet I a1 a2))) 33 2)), (u2 L 33 2 ((L 33 2) ^^^ (F_X9_turnSet I a1 a2)))) (jx (P := P) kk (Eq.trans (if_neg c1) (if_neg c2)))) ⟨(Nat.le_of_ble_eq_true rfl), (Nat.le_of_ble_eq_true rfl)⟩) (fun c2 => V_X9_turn_36  hr (jx (P := P) kk (Eq.trans (if_neg c1) (if_pos c2)))))
theorem ct_X9_turn  (I : WI) (L : WL) (a1 : Int32) (a2 : Int32)  : Ct x_X9_turn 3 [.ref 33, .int a1, .int a2] ly0 I L R0 0 0 (some (.int (p1 (F_X9_turn I L a1 a2))), ly0, I, (p2 (F_X9_turn I L a1 a2)), R0) :=
  Ct_of_V mo_X9_turn.1 (Nat.le_of_ble_eq_true rfl) (V_X9_turn (P := fun x => x = (F_X9_turn I L a1 a2))  (fun _ e => by rw [e]) rfl)
def F_X9_go_25_2 (I : WI) (L : WL) (a1 : Int32) (a2 : Int32) (a3 : Int32) : Option (WL ⊕ (Int32 × WL)) :=
  (if (4 * a2) < 0 ∨ 48 ≤ Int32.toNatClampNeg (4 * a2) then none else (if (I 34 (Int32.toNatClampNeg (4 * a2))) < a3 then some (.inl L) else (if ((4 * a2) + a3) < 0 ∨ 48 ≤ Int32.toNatClampNeg ((4 * a2) + a3) then none else (if ((4 * a2) + a3) < 0 ∨ 48 ≤ Int32.toNatClampNeg ((4 * a2) + a3) then none else some (.inr ((a3 + 1), (u2 L 33 2 ((L 33 2) ^^^ (F_X9_actSet I ((I 34 (Int32.toNatClampNeg ((4 * a2) + a3))) / 20) ((I 34 (Int32.toNatClampNeg ((4 * a2) + a3))) - (I 34 (Int32.toNatClampNeg ((4 * a2) + a3))) / 20 * 20))))))))))
theorem V_X9_go_25_2  {I : WI} {L : WL} {a1 : Int32} {a2 : Int32} {a3 : Int32} {P : (WL ⊕ (Int32 × WL)) → Prop} {t : Tg} (he : ∀ x : WL, P (.inl x) → V (zM x_X9_go 3 0 0 t) 82 [(0, .ref 33), (1, .int a1), (2, .int a2)] [] ly0 I x R0 0 0) (hk : ∀ x : (Int32 × WL), P (.inr x) → V (zM x_X9_go 3 0 0 t) 25 [(0, .ref 33), (1, .int a1), (2, .int a2), (3, .int (p1 x))] [] ly0 I (p2 x) R0 0 0) : oP P (F_X9_go_25_2 I L a1 a2 a3) → V (zM x_X9_go 3 0 0 t) 25 [(0, .ref 33), (1, .int a1), (2, .int a2), (3, .int a3)] [] ly0 I L R0 0 0 :=
  fun _ =>
  have kq : (oP P (F_X9_go_25_2 I L a1 a2 a3)) ∧ True := ⟨by assumption, trivial⟩
  V_iload_n (tat ok_X9_go_0 (i := 17) (q := 26) rfl rfl) 3 rfl rfl <|
    V_aload_n (tat ok_X9_go_0 (i := 18) (q := 27) rfl rfl) 0 rfl rfl <|
    V_getR (tat ok_X9_go_0 (i := 19) (q := 30) rfl rfl) fk_X9_7 rfl rfl <|
    V_iconst (tat ok_X9_go_0 (i := 20) (q := 31) rfl rfl) ic_4 <|
    V_iload_n (tat ok_X9_go_0 (i := 21) (q := 32) rfl rfl) 2 rfl rfl <|
    V_imul (tat ok_X9_go_0 (i := 22) (q := 33) rfl rfl) <|
    (if c2 : (4 * a2) < 0 ∨ 48 ≤ Int32.toNatClampNeg (4 * a2) then ((jq (P := oP P) kq (if_pos c2))).elim else V_iald (tat ok_X9_go_0 (i := 23) (q := 34) rfl rfl) rfl c2 <|
    V_icmp_gt (tat ok_X9_go_0 (i := 24) (q := 37) rfl rfl) rfl (fun c3 => V_pick [0, 1, 2] rfl (he L (jq (P := oP P) kq (Eq.trans (if_neg c2) (if_pos c3))))) (fun c3 => V_aload_n (tat ok_X9_go_0 (i := 25) (q := 38) rfl rfl) 0 rfl rfl <|
    V_dup (tat ok_X9_go_0 (i := 26) (q := 39) rfl rfl) rfl <|
    V_getL (tat ok_X9_go_0 (i := 27) (q := 42) rfl rfl) fk_X9_80 rfl <|
    V_aload_n (tat ok_X9_go_0 (i := 28) (q := 43) rfl rfl) 0 rfl rfl <|
    V_aload_n (tat ok_X9_go_0 (i := 29) (q := 44) rfl rfl) 0 rfl rfl <|
    V_getR (tat ok_X9_go_0 (i := 30) (q := 47) rfl rfl) fk_X9_7 rfl rfl <|
    V_iconst (tat ok_X9_go_0 (i := 31) (q := 48) rfl rfl) ic_4 <|
    V_iload_n (tat ok_X9_go_0 (i := 32) (q := 49) rfl rfl) 2 rfl rfl <|
    V_imul (tat ok_X9_go_0 (i := 33) (q := 50) rfl rfl) <|
    V_iload_n (tat ok_X9_go_0 (i := 34) (q := 51) rfl rfl) 3 rfl rfl <|
    V_iadd (tat ok_X9_go_0 (i := 35) (q := 52) rfl rfl) <|
    (if c4 : ((4 * a2) + a3) < 0 ∨ 48 ≤ Int32.toNatClampNeg ((4 * a2) + a3) then ((jq (P := oP P) kq (Eq.trans (if_neg c2) (Eq.trans (if_neg c3) (if_pos c4))))).elim else V_iald (tat ok_X9_go_0 (i := 36) (q := 53) rfl rfl) rfl c4 <|
    V_bipush (tat ok_X9_go_0 (i := 37) (q := 55) rfl rfl) bp_20 <|
    V_idiv (tat ok_X9_go_0 (i := 38) (q := 56) rfl rfl) (by decide) <|
    V_aload_n (tat ok_X9_go_0 (i := 39) (q := 57) rfl rfl) 0 rfl rfl <|
    V_getR (tat ok_X9_go_1 (i := 0) (q := 60) rfl rfl) fk_X9_7 rfl rfl <|
    V_iconst (tat ok_X9_go_1 (i := 1) (q := 61) rfl rfl) ic_4 <|
    V_iload_n (tat ok_X9_go_1 (i := 2) (q := 62) rfl rfl) 2 rfl rfl <|
    V_imul (tat ok_X9_go_1 (i := 3) (q := 63) rfl rfl) <|
    V_iload_n (tat ok_X9_go_1 (i := 4) (q := 64) rfl rfl) 3 rfl rfl <|
    V_iadd (tat ok_X9_go_1 (i := 5) (q := 65) rfl rfl) <|
    (if c5 : ((4 * a2) + a3) < 0 ∨ 48 ≤ Int32.toNatClampNeg ((4 * a2) + a3) then ((jq (P := oP P) kq (Eq.trans (if_neg c2) (Eq.trans (if_neg c3) (Eq.trans (if_neg c4) (if_pos c5)))))).elim else V_iald (tat ok_X9_go_1 (i := 6) (q := 66) rfl rfl) rfl c5 <|
    V_bipush (tat ok_X9_go_1 (i := 7) (q := 68) rfl rfl) bp_20 <|
    V_irem (tat ok_X9_go_1 (i := 8) (q := 69) rfl rfl) (by decide) <|
    V_cv2 (ct_X9_actSet I L ((I 34 (Int32.toNatClampNeg ((4 * a2) + a3))) / 20) ((I 34 (Int32.toNatClampNeg ((4 * a2) + a3))) - (I 34 (Int32.toNatClampNeg ((4 * a2) + a3))) / 20 * 20) ) mo_X9_actSet (tat ok_X9_go_1 (i := 9) (q := 72) rfl rfl) ml_X9_217 rfl ⟨by decide, _, rfl, rfl⟩ ⟨(Nat.le_of_ble_eq_true rfl), (Nat.le_of_ble_eq_true rfl)⟩ ⟨(Nat.le_of_ble_eq_true rfl), (Nat.le_of_ble_eq_true rfl)⟩ (Nat.le_of_ble_eq_true rfl) <|
    V_lxor (tat ok_X9_go_1 (i := 10) (q := 73) rfl rfl) <|
    V_putL (tat ok_X9_go_1 (i := 11) (q := 76) rfl rfl) fk_X9_80 rfl rfl <|
    V_iinc (v := (a3 + 1)) (lv' := [(3, .int (a3 + 1)), (0, .ref 33), (1, .int a1), (2, .int a2)]) (tat ok_X9_go_1 (i := 12) (q := 79) rfl rfl) 3 rfl (ia ic_1) (Nat.le_of_ble_eq_true rfl) rfl <|
    V_goto (tat ok_X9_go_1 (i := 13) (q := 82) rfl rfl) rfl <|
    V_pick [1, 2, 3, 0] rfl (hk ((a3 + 1), (u2 L 33 2 ((L 33 2) ^^^ (F_X9_actSet I ((I 34 (Int32.toNatClampNeg ((4 * a2) + a3))) / 20) ((I 34 (Int32.toNatClampNeg ((4 * a2) + a3))) - (I 34 (Int32.toNatClampNeg ((4 * a2) + a3))) / 20 * 20))))) (jq (P := oP P) kq (Eq.trans (if_neg c2) (Eq.trans (if_neg c3) (Eq.trans (if_neg c4) (if_neg c5))))))))))
def F_X9_go_82_1 (I : WI) (L : WL) (a1 : Int32) (a2 : Int32) : Option WL :=
  some L
theorem V_X9_go_82_1  {I : WI} {L : WL} {a1 : Int32} {a2 : Int32}  {P : WL → Prop} {t : Tg} (hk : ∀ x : WL, P x → V (zM x_X9_go 3 0 0 t) 18 [(0, .ref 33), (1, .int a1), (2, .int (a2 + 1))] [] ly0 I x R0 0 0) : oP P (F_X9_go_82_1 I L a1 a2) → V (zM x_X9_go 3 0 0 t) 82 [(0, .ref 33), (1, .int a1), (2, .int a2)] [] ly0 I L R0 0 0 :=
  fun _ =>
  have kq : (oP P (F_X9_go_82_1 I L a1 a2)) ∧ True := ⟨by assumption, trivial⟩
  V_iinc (v := (a2 + 1)) (lv' := [(2, .int (a2 + 1)), (0, .ref 33), (1, .int a1)]) (tat ok_X9_go_1 (i := 14) (q := 85) rfl rfl) 2 rfl (ia ic_1) (Nat.le_of_ble_eq_true rfl) rfl <|
    V_goto (tat ok_X9_go_1 (i := 15) (q := 88) rfl rfl) rfl <|
    V_pick [1, 2, 0] rfl (hk L (jq (P := oP P) kq rfl))
def F_X9_go_25_1 (I : WI) (L : WL) (a1 : Int32) (a2 : Int32) (a3 : Int32) : Option WL :=
  (lpp (fun x => (F_X9_go_25_2 I (p2 x) a1 a2 (p1 x))) 4294967296 (a3, L)).bind (fun q => (F_X9_go_82_1 I q a1 a2))
theorem V_X9_go_25_1  {I : WI} {L : WL} {a1 : Int32} {a2 : Int32} {a3 : Int32} {P : WL → Prop} {t : Tg} (hb3 : bz a3 = a3) (hk : ∀ x : WL, P x → V (zM x_X9_go 3 0 0 t) 18 [(0, .ref 33), (1, .int a1), (2, .int (a2 + 1))] [] ly0 I x R0 0 0) (kk : oP P (F_X9_go_25_1 I L a1 a2 a3)) : V (zM x_X9_go 3 0 0 t) 25 [(0, .ref 33), (1, .int a1), (2, .int a2), (3, .int a3)] [] ly0 I L R0 0 0 :=
  V_lpp (fun x => (F_X9_go_25_2 I (p2 x) a1 a2 (p1 x))) (fun x => V (zM x_X9_go 3 0 0 t) 25 [(0, .ref 33), (1, .int a1), (2, .int a2), (3, .int (p1 x))] [] ly0 I (p2 x) R0 0 0) (fun x => oP P ((F_X9_go_82_1 I x a1 a2))) (s := (a3, L)) (fun x e0 => V_X9_go_25_2 (P := Sum.elim (fun x => oP P ((F_X9_go_82_1 I x a1 a2))) (fun x => V (zM x_X9_go 3 0 0 t) 25 [(0, .ref 33), (1, .int a1), (2, .int a2), (3, .int (p1 x))] [] ly0 I (p2 x) R0 0 0))  (fun x e => V_X9_go_82_1  hk e) (fun _ e => e) e0) (oP_bind (f := fun q => _) kk)
def F_X9_go_23_1 (I : WI) (L : WL) (a1 : Int32) (a2 : Int32) : Option WL :=
  (F_X9_go_25_1 I L a1 a2 1)
theorem V_X9_go_23_1  {I : WI} {L : WL} {a1 : Int32} {a2 : Int32}  {P : WL → Prop} {t : Tg} (hk : ∀ x : WL, P x → V (zM x_X9_go 3 0 0 t) 18 [(0, .ref 33), (1, .int a1), (2, .int (a2 + 1))] [] ly0 I x R0 0 0) : oP P (F_X9_go_23_1 I L a1 a2) → V (zM x_X9_go 3 0 0 t) 23 [(0, .ref 33), (1, .int a1), (2, .int a2)] [] ly0 I L R0 0 0 :=
  fun _ =>
  have kq : (oP P (F_X9_go_23_1 I L a1 a2)) ∧ True := ⟨by assumption, trivial⟩
  V_iconst (tat ok_X9_go_0 (i := 15) (q := 24) rfl rfl) ic_1 <|
    V_istore_n (lv' := [(3, .int 1), (0, .ref 33), (1, .int a1), (2, .int a2)]) (tat ok_X9_go_0 (i := 16) (q := 25) rfl rfl) rfl (Nat.le_of_ble_eq_true rfl) rfl <|
    V_pick [1, 2, 3, 0] rfl (V_X9_go_25_1 rfl hk (jq (P := oP P) kq rfl))
def F_X9_go_88 (I : WI) (L : WL) (a1 : Int32) : Option (Int32 × WL) :=
  some ((F_X9_many (L 33 2)), L)
theorem V_X9_go_88  {I : WI} {L : WL} {a1 : Int32}  {P : (Int32 × WL) → Prop} {t : Tg} (hr : ∀ v, P v → t = (some (.int (p1 v)), ly0, I, (p2 v), R0)) : oP P (F_X9_go_88 I L a1) → V (zM x_X9_go 3 0 0 t) 88 [(0, .ref 33), (1, .int a1)] [] ly0 I L R0 0 0 :=
  fun _ =>
  have kq : (oP P (F_X9_go_88 I L a1)) ∧ True := ⟨by assumption, trivial⟩
  V_aload_n (tat ok_X9_go_1 (i := 16) (q := 89) rfl rfl) 0 rfl rfl <|
    V_getL (tat ok_X9_go_1 (i := 17) (q := 92) rfl rfl) fk_X9_80 rfl <|
    V_cs1 (ct_X9_many I L (L 33 2) ) mo_X9_many (tat ok_X9_go_1 (i := 18) (q := 95) rfl rfl) ml_X9_220 ⟨(Nat.le_of_ble_eq_true rfl), (Nat.le_of_ble_eq_true rfl)⟩ ⟨(Nat.le_of_ble_eq_true rfl), (Nat.le_of_ble_eq_true rfl)⟩ (Nat.le_of_ble_eq_true rfl) <|
    V_iret (tat ok_X9_go_1 (i := 19) (q := 96) rfl rfl) _ rfl (nar_int _) (hr ((F_X9_many (L 33 2)), L) (jq (P := oP P) kq rfl)) ⟨(Nat.le_of_ble_eq_true rfl), (Nat.le_of_ble_eq_true rfl)⟩
def F_X9_go_18 (I : WI) (L : WL) (a1 : Int32) (a2 : Int32) : Option (Int32 × WL) :=
  (frp0 (fun i x => (F_X9_go_23_1 I x a1 i)) a1 (fu a2 a1) a2 L).bind (fun q => (F_X9_go_88 I (p2 q) a1))
theorem V_X9_go_18  {I : WI} {L : WL} {a1 : Int32} {a2 : Int32} {P : (Int32 × WL) → Prop} {t : Tg} (hb2 : bz a2 = a2) (hr : ∀ v, P v → t = (some (.int (p1 v)), ly0, I, (p2 v), R0)) (kk : oP P (F_X9_go_18 I L a1 a2)) : V (zM x_X9_go 3 0 0 t) 18 [(0, .ref 33), (1, .int a1), (2, .int a2)] [] ly0 I L R0 0 0 :=
  V_frp0 (fun i x => (F_X9_go_23_1 I x a1 i)) a1 (fun i x => V (zM x_X9_go 3 0 0 t) 18 [(0, .ref 33), (1, .int a1), (2, .int i)] [] ly0 I x R0 0 0) (fun i x => oP P ((F_X9_go_88 I x a1))) (c := a2) (s := L) (fun i x kx kb => V_iload_n (tat ok_X9_go_0 (i := 12) (q := 19) rfl rfl) 2 rfl rfl <|
    V_iload_n (tat ok_X9_go_0 (i := 13) (q := 20) rfl rfl) 1 rfl rfl <|
    V_icmp_ge (tat ok_X9_go_0 (i := 14) (q := 23) rfl rfl) rfl (fun c0 => V_pick [0, 1] rfl (V_X9_go_88  hr (kx c0))) (fun c0 => V_X9_go_23_1 (P := (fun x => (fun i x => V (zM x_X9_go 3 0 0 t) 18 [(0, .ref 33), (1, .int a1), (2, .int i)] [] ly0 I x R0 0 0) (i + 1) x))  (fun _ e => e) (kb c0))) (oP_bind (f := fun q => _) kk)
def F_X9_go (I : WI) (L : WL) (a1 : Int32) : Option (Int32 × WL) :=
  (if (F_X9_in (Int32.toInt64 a1) 0 (Int32.toInt64 (I 33 5))) = 0 then some ((-1), L) else (F_X9_go_18 I L a1 0))
theorem V_X9_go  {I : WI} {L : WL} {a1 : Int32}  {P : (Int32 × WL) → Prop} {t : Tg} (hr : ∀ v, P v → t = (some (.int (p1 v)), ly0, I, (p2 v), R0)) : oP P (F_X9_go I L a1) → V (zM x_X9_go 3 0 0 t) 0 [(0, .ref 33), (1, .int a1)] [] ly0 I L R0 0 0 :=
  fun _ =>
  have kq : (oP P (F_X9_go I L a1)) ∧ True := ⟨by assumption, trivial⟩
  V_iload_n (tat ok_X9_go_0 (i := 0) (q := 1) rfl rfl) 1 rfl rfl <|
    V_i2l (tat ok_X9_go_0 (i := 1) (q := 2) rfl rfl) <|
    V_lconst (v := 0) (tat ok_X9_go_0 (i := 2) (q := 3) rfl rfl) rfl <|
    V_aload_n (tat ok_X9_go_0 (i := 3) (q := 4) rfl rfl) 0 rfl rfl <|
    V_getI (tat ok_X9_go_0 (i := 4) (q := 7) rfl rfl) fk_X9_89 rfl <|
    V_i2l (tat ok_X9_go_0 (i := 5) (q := 8) rfl rfl) <|
    V_cs3 (ct_X9_in I L (Int32.toInt64 a1) 0 (Int32.toInt64 (I 33 5)) ) mo_X9_in (tat ok_X9_go_0 (i := 6) (q := 11) rfl rfl) ml_X9_97 ⟨(Nat.le_of_ble_eq_true rfl), (Nat.le_of_ble_eq_true rfl)⟩ ⟨(Nat.le_of_ble_eq_true rfl), (Nat.le_of_ble_eq_true rfl)⟩ (Nat.le_of_ble_eq_true rfl) <|
    V_if_ne (tat ok_X9_go_0 (i := 7) (q := 14) rfl rfl) rfl (fun c1 => V_iconst (tat ok_X9_go_0 (i := 10) (q := 17) rfl rfl) ic_0 <|
    V_istore_n (lv' := [(2, .int 0), (0, .ref 33), (1, .int a1)]) (tat ok_X9_go_0 (i := 11) (q := 18) rfl rfl) rfl (Nat.le_of_ble_eq_true rfl) rfl <|
    V_pick [1, 2, 0] rfl (V_X9_go_18 rfl hr (jq (P := oP P) kq (if_neg c1)))) (fun c1 => V_iconst (tat ok_X9_go_0 (i := 8) (q := 15) rfl rfl) ic_m1 <|
    V_iret (tat ok_X9_go_0 (i := 9) (q := 16) rfl rfl) _ rfl (nar_int _) (hr ((-1), L) (jq (P := oP P) kq (if_pos c1))) ⟨(Nat.le_of_ble_eq_true rfl), (Nat.le_of_ble_eq_true rfl)⟩)
theorem ct_X9_go  (I : WI) (L : WL) (a1 : Int32)  {v : (Int32 × WL)} (h : (F_X9_go I L a1) = some v) : Ct x_X9_go 3 [.ref 33, .int a1] ly0 I L R0 0 0 (some (.int (p1 v)), ly0, I, (p2 v), R0) :=
  Ct_of_V mo_X9_go.1 (Nat.le_of_ble_eq_true rfl) (V_X9_go (P := fun x => x = v)  (fun _ e => by rw [e]) (by rw [h]; exact rfl))
def F_X9_formOf_73_2 (a0 : Int64) (a2 : Int32) (a3 : Int32) (a6 : Int32) (a7 : Int32) (s0 : Int64) (s1 : Int64) : Int64 :=
  (s1 ||| s0)
theorem V_X9_formOf_73_2  {I : WI} {L : WL} {a0 : Int64} {a2 : Int32} {a3 : Int32} {a6 : Int32} {a7 : Int32} {s0 : Int64} {s1 : Int64} {P : Int64 → Prop} {t : Tg} (hk : ∀ x : Int64, P x → V (zM x_X9_formOf 2 0 0 t) 15 [(0, .long a0), (2, .int a2), (3, .int a3), (4, .long x), (6, .int a6), (7, .int (a7 + 1))] [] ly0 I L R0 0 0) (kk : P (F_X9_formOf_73_2 a0 a2 a3 a6 a7 s0 s1)) : V (zM x_X9_formOf 2 0 0 t) 73 [(0, .long a0), (2, .int a2), (3, .int a3), (6, .int a6), (7, .int a7)] [.long s0, .long s1] ly0 I L R0 0 0 :=
  V_lor (tat ok_X9_formOf_1 (i := 1) (q := 74) rfl rfl) <|
    V_lstore (lv' := [(4, .long (s1 ||| s0)), (0, .long a0), (2, .int a2), (3, .int a3), (6, .int a6), (7, .int a7)]) (tat ok_X9_formOf_1 (i := 2) (q := 76) rfl rfl) (Nat.le_of_ble_eq_true rfl) rfl <|
    V_iinc (v := (a7 + 1)) (lv' := [(7, .int (a7 + 1)), (4, .long (s1 ||| s0)), (0, .long a0), (2, .int a2), (3, .int a3), (6, .int a6)]) (tat ok_X9_formOf_1 (i := 3) (q := 79) rfl rfl) 5 rfl (ia ic_1) (Nat.le_of_ble_eq_true rfl) rfl <|
    V_goto (tat ok_X9_formOf_1 (i := 4) (q := 82) rfl rfl) rfl <|
    V_pick [2, 3, 4, 1, 5, 0] rfl (hk (s1 ||| s0) (jx (P := P) kk rfl))
def F_X9_formOf_21_2 (a0 : Int64) (a2 : Int32) (a3 : Int32) (a6 : Int32) (a7 : Int32) (a4 : Int64) : Int64 :=
  (if ((((F_X9_isDark a0 a6 a7) ^^^ (F_X9_isDark a0 a6 0)) ^^^ (F_X9_isDark a0 0 a7)) ^^^ (F_X9_isDark a0 0 0)) = 1 then (F_X9_formOf_73_2 a0 a2 a3 a6 a7 (F_X9_bitOf a6 a7) a4) else (F_X9_formOf_73_2 a0 a2 a3 a6 a7 0 a4))
theorem V_X9_formOf_21_2  {I : WI} {L : WL} {a0 : Int64} {a2 : Int32} {a3 : Int32} {a6 : Int32} {a7 : Int32} {a4 : Int64} {P : Int64 → Prop} {t : Tg} (hk : ∀ x : Int64, P x → V (zM x_X9_formOf 2 0 0 t) 15 [(0, .long a0), (2, .int a2), (3, .int a3), (4, .long x), (6, .int a6), (7, .int (a7 + 1))] [] ly0 I L R0 0 0) (kk : P (F_X9_formOf_21_2 a0 a2 a3 a6 a7 a4)) : V (zM x_X9_formOf 2 0 0 t) 21 [(0, .long a0), (2, .int a2), (3, .int a3), (4, .long a4), (6, .int a6), (7, .int a7)] [] ly0 I L R0 0 0 :=
  V_lload_n (tat ok_X9_formOf_0 (i := 12) (q := 22) rfl rfl) 0 rfl rfl <|
    V_iload (tat ok_X9_formOf_0 (i := 13) (q := 24) rfl rfl) 4 rfl <|
    V_iload (tat ok_X9_formOf_0 (i := 14) (q := 26) rfl rfl) 5 rfl <|
    V_cs3 (ct_X9_isDark I L a0 a6 a7 ) mo_X9_isDark (tat ok_X9_formOf_0 (i := 15) (q := 29) rfl rfl) ml_X9_210 ⟨(Nat.le_of_ble_eq_true rfl), (Nat.le_of_ble_eq_true rfl)⟩ ⟨(Nat.le_of_ble_eq_true rfl), (Nat.le_of_ble_eq_true rfl)⟩ (Nat.le_of_ble_eq_true rfl) <|
    V_lload_n (tat ok_X9_formOf_0 (i := 16) (q := 30) rfl rfl) 0 rfl rfl <|
    V_iload (tat ok_X9_formOf_0 (i := 17) (q := 32) rfl rfl) 4 rfl <|
    V_iconst (tat ok_X9_formOf_0 (i := 18) (q := 33) rfl rfl) ic_0 <|
    V_cs3 (ct_X9_isDark I L a0 a6 0 ) mo_X9_isDark (tat ok_X9_formOf_0 (i := 19) (q := 36) rfl rfl) ml_X9_210 ⟨(Nat.le_of_ble_eq_true rfl), (Nat.le_of_ble_eq_true rfl)⟩ ⟨(Nat.le_of_ble_eq_true rfl), (Nat.le_of_ble_eq_true rfl)⟩ (Nat.le_of_ble_eq_true rfl) <|
    V_ixor (tat ok_X9_formOf_0 (i := 20) (q := 37) rfl rfl) <|
    V_lload_n (tat ok_X9_formOf_0 (i := 21) (q := 38) rfl rfl) 0 rfl rfl <|
    V_iconst (tat ok_X9_formOf_0 (i := 22) (q := 39) rfl rfl) ic_0 <|
    V_iload (tat ok_X9_formOf_0 (i := 23) (q := 41) rfl rfl) 5 rfl <|
    V_cs3 (ct_X9_isDark I L a0 0 a7 ) mo_X9_isDark (tat ok_X9_formOf_0 (i := 24) (q := 44) rfl rfl) ml_X9_210 ⟨(Nat.le_of_ble_eq_true rfl), (Nat.le_of_ble_eq_true rfl)⟩ ⟨(Nat.le_of_ble_eq_true rfl), (Nat.le_of_ble_eq_true rfl)⟩ (Nat.le_of_ble_eq_true rfl) <|
    V_ixor (tat ok_X9_formOf_0 (i := 25) (q := 45) rfl rfl) <|
    V_lload_n (tat ok_X9_formOf_0 (i := 26) (q := 46) rfl rfl) 0 rfl rfl <|
    V_iconst (tat ok_X9_formOf_0 (i := 27) (q := 47) rfl rfl) ic_0 <|
    V_iconst (tat ok_X9_formOf_0 (i := 28) (q := 48) rfl rfl) ic_0 <|
    V_cs3 (ct_X9_isDark I L a0 0 0 ) mo_X9_isDark (tat ok_X9_formOf_0 (i := 29) (q := 51) rfl rfl) ml_X9_210 ⟨(Nat.le_of_ble_eq_true rfl), (Nat.le_of_ble_eq_true rfl)⟩ ⟨(Nat.le_of_ble_eq_true rfl), (Nat.le_of_ble_eq_true rfl)⟩ (Nat.le_of_ble_eq_true rfl) <|
    V_ixor (tat ok_X9_formOf_0 (i := 30) (q := 52) rfl rfl) <|
    V_istore (lv' := [(8, .int ((((F_X9_isDark a0 a6 a7) ^^^ (F_X9_isDark a0 a6 0)) ^^^ (F_X9_isDark a0 0 a7)) ^^^ (F_X9_isDark a0 0 0))), (0, .long a0), (2, .int a2), (3, .int a3), (4, .long a4), (6, .int a6), (7, .int a7)]) (tat ok_X9_formOf_0 (i := 31) (q := 54) rfl rfl) (Nat.le_of_ble_eq_true rfl) rfl <|
    V_lload (tat ok_X9_formOf_0 (i := 32) (q := 56) rfl rfl) 4 rfl <|
    V_iload (tat ok_X9_formOf_0 (i := 33) (q := 58) rfl rfl) 0 rfl <|
    V_iconst (tat ok_X9_formOf_0 (i := 34) (q := 59) rfl rfl) ic_1 <|
    V_icmp_ne (tat ok_X9_formOf_0 (i := 35) (q := 62) rfl rfl) rfl (fun c1 => V_lconst (v := 0) (tat ok_X9_formOf_1 (i := 0) (q := 73) rfl rfl) rfl <|
    V_pick [1, 2, 3, 5, 6] rfl (V_X9_formOf_73_2  hk (jx (P := P) kk (if_neg c1)))) (fun c1 => V_iload (tat ok_X9_formOf_0 (i := 36) (q := 64) rfl rfl) 5 rfl <|
    V_iload (tat ok_X9_formOf_0 (i := 37) (q := 66) rfl rfl) 6 rfl <|
    V_cs2 (ct_X9_bitOf I L a6 a7 ) mo_X9_bitOf (tat ok_X9_formOf_0 (i := 38) (q := 69) rfl rfl) ml_X9_155 ⟨(Nat.le_of_ble_eq_true rfl), (Nat.le_of_ble_eq_true rfl)⟩ ⟨(Nat.le_of_ble_eq_true rfl), (Nat.le_of_ble_eq_true rfl)⟩ (Nat.le_of_ble_eq_true rfl) <|
    V_goto (tat ok_X9_formOf_0 (i := 39) (q := 72) rfl rfl) rfl <|
    V_pick [1, 2, 3, 5, 6] rfl (V_X9_formOf_73_2  hk (jx (P := P) kk (if_pos c1))))
def F_X9_formOf_82_1 (a0 : Int64) (a2 : Int32) (a3 : Int32) (a6 : Int32) (a4 : Int64) : Int64 :=
  a4
theorem V_X9_formOf_82_1  {I : WI} {L : WL} {a0 : Int64} {a2 : Int32} {a3 : Int32} {a6 : Int32} {a4 : Int64} {P : Int64 → Prop} {t : Tg} (hk : ∀ x : Int64, P x → V (zM x_X9_formOf 2 0 0 t) 6 [(0, .long a0), (2, .int a2), (3, .int a3), (4, .long x), (6, .int (a6 + 1))] [] ly0 I L R0 0 0) (kk : P (F_X9_formOf_82_1 a0 a2 a3 a6 a4)) : V (zM x_X9_formOf 2 0 0 t) 82 [(0, .long a0), (2, .int a2), (3, .int a3), (4, .long a4), (6, .int a6)] [] ly0 I L R0 0 0 :=
  V_iinc (v := (a6 + 1)) (lv' := [(6, .int (a6 + 1)), (0, .long a0), (2, .int a2), (3, .int a3), (4, .long a4)]) (tat ok_X9_formOf_1 (i := 5) (q := 85) rfl rfl) 4 rfl (ia ic_1) (Nat.le_of_ble_eq_true rfl) rfl <|
    V_goto (tat ok_X9_formOf_1 (i := 6) (q := 88) rfl rfl) rfl <|
    V_pick [1, 2, 3, 4, 0] rfl (hk a4 (jx (P := P) kk rfl))
def F_X9_formOf_15_1 (a0 : Int64) (a2 : Int32) (a3 : Int32) (a6 : Int32) (a4 : Int64) (a7 : Int32) : Int64 :=
  (fun q : Int32 × Int64 => (F_X9_formOf_82_1 a0 a2 a3 a6 (p2 q))) (fr0 (fun i x => (F_X9_formOf_21_2 a0 a2 a3 a6 i x)) a3 (fu a7 a3) a7 a4)
theorem V_X9_formOf_15_1  {I : WI} {L : WL} {a0 : Int64} {a2 : Int32} {a3 : Int32} {a6 : Int32} {a4 : Int64} {a7 : Int32} {P : Int64 → Prop} {t : Tg} (hb7 : bz a7 = a7) (hk : ∀ x : Int64, P x → V (zM x_X9_formOf 2 0 0 t) 6 [(0, .long a0), (2, .int a2), (3, .int a3), (4, .long x), (6, .int (a6 + 1))] [] ly0 I L R0 0 0) (kk : P (F_X9_formOf_15_1 a0 a2 a3 a6 a4 a7)) : V (zM x_X9_formOf 2 0 0 t) 15 [(0, .long a0), (2, .int a2), (3, .int a3), (4, .long a4), (6, .int a6), (7, .int a7)] [] ly0 I L R0 0 0 :=
  V_fr0 (fun i x => (F_X9_formOf_21_2 a0 a2 a3 a6 i x)) a3 (fun i x => V (zM x_X9_formOf 2 0 0 t) 15 [(0, .long a0), (2, .int a2), (3, .int a3), (4, .long x), (6, .int a6), (7, .int i)] [] ly0 I L R0 0 0) (fun i x => P ((F_X9_formOf_82_1 a0 a2 a3 a6 x))) (c := a7) (s := a4) (fun i x kx kb => V_iload (tat ok_X9_formOf_0 (i := 9) (q := 17) rfl rfl) 5 rfl <|
    V_iload_n (tat ok_X9_formOf_0 (i := 10) (q := 18) rfl rfl) 2 rfl rfl <|
    V_icmp_ge (tat ok_X9_formOf_0 (i := 11) (q := 21) rfl rfl) rfl (fun c0 => V_pick [0, 1, 2, 3, 4] rfl (V_X9_formOf_82_1  hk (kx c0))) (fun c0 => V_X9_formOf_21_2 (P := (fun x => (fun i x => V (zM x_X9_formOf 2 0 0 t) 15 [(0, .long a0), (2, .int a2), (3, .int a3), (4, .long x), (6, .int a6), (7, .int i)] [] ly0 I L R0 0 0) (i + 1) x))  (fun _ e => e) (kb c0))) kk
def F_X9_formOf_12_1 (a0 : Int64) (a2 : Int32) (a3 : Int32) (a6 : Int32) (a4 : Int64) : Int64 :=
  (F_X9_formOf_15_1 a0 a2 a3 a6 a4 0)
theorem V_X9_formOf_12_1  {I : WI} {L : WL} {a0 : Int64} {a2 : Int32} {a3 : Int32} {a6 : Int32} {a4 : Int64} {P : Int64 → Prop} {t : Tg} (hk : ∀ x : Int64, P x → V (zM x_X9_formOf 2 0 0 t) 6 [(0, .long a0), (2, .int a2), (3, .int a3), (4, .long x), (6, .int (a6 + 1))] [] ly0 I L R0 0 0) (kk : P (F_X9_formOf_12_1 a0 a2 a3 a6 a4)) : V (zM x_X9_formOf 2 0 0 t) 12 [(0, .long a0), (2, .int a2), (3, .int a3), (4, .long a4), (6, .int a6)] [] ly0 I L R0 0 0 :=
  V_iconst (tat ok_X9_formOf_0 (i := 7) (q := 13) rfl rfl) ic_0 <|
    V_istore (lv' := [(7, .int 0), (0, .long a0), (2, .int a2), (3, .int a3), (4, .long a4), (6, .int a6)]) (tat ok_X9_formOf_0 (i := 8) (q := 15) rfl rfl) (Nat.le_of_ble_eq_true rfl) rfl <|
    V_pick [1, 2, 3, 4, 5, 0] rfl (V_X9_formOf_15_1 rfl hk (jx (P := P) kk rfl))
def F_X9_formOf_88 (a0 : Int64) (a2 : Int32) (a3 : Int32) (a4 : Int64) : Int64 :=
  a4
theorem V_X9_formOf_88  {I : WI} {L : WL} {a0 : Int64} {a2 : Int32} {a3 : Int32} {a4 : Int64} {P : Int64 → Prop} {t : Tg} (hr : ∀ v, P v → t = (some (.long v), ly0, I, L, R0)) (kk : P (F_X9_formOf_88 a0 a2 a3 a4)) : V (zM x_X9_formOf 2 0 0 t) 88 [(0, .long a0), (2, .int a2), (3, .int a3), (4, .long a4)] [] ly0 I L R0 0 0 :=
  V_lload (tat ok_X9_formOf_1 (i := 7) (q := 90) rfl rfl) 3 rfl <|
    V_lret (tat ok_X9_formOf_1 (i := 8) (q := 91) rfl rfl) rfl (hr a4 (jx (P := P) kk rfl)) ⟨(Nat.le_of_ble_eq_true rfl), (Nat.le_of_ble_eq_true rfl)⟩
def F_X9_formOf_6 (a0 : Int64) (a2 : Int32) (a3 : Int32) (a4 : Int64) (a6 : Int32) : Int64 :=
  (fun q : Int32 × Int64 => (F_X9_formOf_88 a0 a2 a3 (p2 q))) (fr0 (fun i x => (F_X9_formOf_12_1 a0 a2 a3 i x)) a2 (fu a6 a2) a6 a4)
theorem V_X9_formOf_6  {I : WI} {L : WL} {a0 : Int64} {a2 : Int32} {a3 : Int32} {a4 : Int64} {a6 : Int32} {P : Int64 → Prop} {t : Tg} (hb6 : bz a6 = a6) (hr : ∀ v, P v → t = (some (.long v), ly0, I, L, R0)) (kk : P (F_X9_formOf_6 a0 a2 a3 a4 a6)) : V (zM x_X9_formOf 2 0 0 t) 6 [(0, .long a0), (2, .int a2), (3, .int a3), (4, .long a4), (6, .int a6)] [] ly0 I L R0 0 0 :=
  V_fr0 (fun i x => (F_X9_formOf_12_1 a0 a2 a3 i x)) a2 (fun i x => V (zM x_X9_formOf 2 0 0 t) 6 [(0, .long a0), (2, .int a2), (3, .int a3), (4, .long x), (6, .int i)] [] ly0 I L R0 0 0) (fun i x => P ((F_X9_formOf_88 a0 a2 a3 x))) (c := a6) (s := a4) (fun i x kx kb => V_iload (tat ok_X9_formOf_0 (i := 4) (q := 8) rfl rfl) 4 rfl <|
    V_iload_n (tat ok_X9_formOf_0 (i := 5) (q := 9) rfl rfl) 1 rfl rfl <|
    V_icmp_ge (tat ok_X9_formOf_0 (i := 6) (q := 12) rfl rfl) rfl (fun c0 => V_pick [0, 1, 2, 3] rfl (V_X9_formOf_88  hr (kx c0))) (fun c0 => V_X9_formOf_12_1 (P := (fun x => (fun i x => V (zM x_X9_formOf 2 0 0 t) 6 [(0, .long a0), (2, .int a2), (3, .int a3), (4, .long x), (6, .int i)] [] ly0 I L R0 0 0) (i + 1) x))  (fun _ e => e) (kb c0))) kk
def F_X9_formOf (a0 : Int64) (a2 : Int32) (a3 : Int32) : Int64 :=
  (F_X9_formOf_6 a0 a2 a3 0 0)
theorem V_X9_formOf  {I : WI} {L : WL} {a0 : Int64} {a2 : Int32} {a3 : Int32}  {P : Int64 → Prop} {t : Tg} (hr : ∀ v, P v → t = (some (.long v), ly0, I, L, R0)) (kk : P (F_X9_formOf a0 a2 a3)) : V (zM x_X9_formOf 2 0 0 t) 0 [(0, .long a0), (2, .int a2), (3, .int a3)] [] ly0 I L R0 0 0 :=
  V_lconst (v := 0) (tat ok_X9_formOf_0 (i := 0) (q := 1) rfl rfl) rfl <|
    V_lstore (lv' := [(4, .long 0), (0, .long a0), (2, .int a2), (3, .int a3)]) (tat ok_X9_formOf_0 (i := 1) (q := 3) rfl rfl) (Nat.le_of_ble_eq_true rfl) rfl <|
    V_iconst (tat ok_X9_formOf_0 (i := 2) (q := 4) rfl rfl) ic_0 <|
    V_istore (lv' := [(6, .int 0), (4, .long 0), (0, .long a0), (2, .int a2), (3, .int a3)]) (tat ok_X9_formOf_0 (i := 3) (q := 6) rfl rfl) (Nat.le_of_ble_eq_true rfl) rfl <|
    V_pick [2, 3, 4, 1, 0] rfl (V_X9_formOf_6 rfl hr (jx (P := P) kk rfl))
theorem ct_X9_formOf  (I : WI) (L : WL) (a0 : Int64) (a2 : Int32) (a3 : Int32)  : Ct x_X9_formOf 2 [.long a0, .int a2, .int a3] ly0 I L R0 0 0 (some (.long (F_X9_formOf a0 a2 a3)), ly0, I, L, R0) :=
  Ct_of_V mo_X9_formOf.1 (Nat.le_of_ble_eq_true rfl) (V_X9_formOf (P := fun x => x = (F_X9_formOf a0 a2 a3))  (fun _ e => by rw [e]) rfl)
def F_X9_formNow (I : WI) (a1 : Int64) : Int64 :=
  (F_X9_formOf a1 (I 33 0) (I 33 1))
theorem V_X9_formNow  {I : WI} {L : WL} {a1 : Int64}  {P : Int64 → Prop} {t : Tg} (hr : ∀ v, P v → t = (some (.long v), ly0, I, L, R0)) (kk : P (F_X9_formNow I a1)) : V (zM x_X9_formNow 3 0 0 t) 0 [(0, .ref 33), (1, .long a1)] [] ly0 I L R0 0 0 :=
  V_lload_n (tat ok_X9_formNow_0 (i := 0) (q := 1) rfl rfl) 1 rfl rfl <|
    V_aload_n (tat ok_X9_formNow_0 (i := 1) (q := 2) rfl rfl) 0 rfl rfl <|
    V_getI (tat ok_X9_formNow_0 (i := 2) (q := 5) rfl rfl) fk_X9_74 rfl <|
    V_aload_n (tat ok_X9_formNow_0 (i := 3) (q := 6) rfl rfl) 0 rfl rfl <|
    V_getI (tat ok_X9_formNow_0 (i := 4) (q := 9) rfl rfl) fk_X9_77 rfl <|
    V_cs3 (ct_X9_formOf I L a1 (I 33 0) (I 33 1) ) mo_X9_formOf (tat ok_X9_formNow_0 (i := 5) (q := 12) rfl rfl) ml_X9_227 ⟨(Nat.le_of_ble_eq_true rfl), (Nat.le_of_ble_eq_true rfl)⟩ ⟨(Nat.le_of_ble_eq_true rfl), (Nat.le_of_ble_eq_true rfl)⟩ (Nat.le_of_ble_eq_true rfl) <|
    V_lret (tat ok_X9_formNow_0 (i := 6) (q := 13) rfl rfl) rfl (hr (F_X9_formOf a1 (I 33 0) (I 33 1)) (jx (P := P) kk rfl)) ⟨(Nat.le_of_ble_eq_true rfl), (Nat.le_of_ble_eq_true rfl)⟩
theorem ct_X9_formNow  (I : WI) (L : WL) (a1 : Int64)  : Ct x_X9_formNow 3 [.ref 33, .long a1] ly0 I L R0 0 0 (some (.long (F_X9_formNow I a1)), ly0, I, L, R0) :=
  Ct_of_V mo_X9_formNow.1 (Nat.le_of_ble_eq_true rfl) (V_X9_formNow (P := fun x => x = (F_X9_formNow I a1))  (fun _ e => by rw [e]) rfl)
def F_X9_form_41 (I : WI) (L : WL) (a1 : Int32) (s0 : Int64) : Int64 :=
  s0
theorem V_X9_form_41  {I : WI} {L : WL} {a1 : Int32} {s0 : Int64} {P : Int64 → Prop} {t : Tg} (hr : ∀ v, P v → t = (some (.long v), ly0, I, L, R0)) (kk : P (F_X9_form_41 I L a1 s0)) : V (zM x_X9_form 4 0 0 t) 41 [(0, .ref 33), (1, .int a1)] [.long s0] ly0 I L R0 0 0 :=
  V_lret (tat ok_X9_form_0 (i := 19) (q := 42) rfl rfl) rfl (hr s0 (jx (P := P) kk rfl)) ⟨(Nat.le_of_ble_eq_true rfl), (Nat.le_of_ble_eq_true rfl)⟩
def F_X9_form_38 (I : WI) (L : WL) (a1 : Int32) : Int64 :=
  (F_X9_form_41 I L a1 (-1))
theorem V_X9_form_38  {I : WI} {L : WL} {a1 : Int32}  {P : Int64 → Prop} {t : Tg} (hr : ∀ v, P v → t = (some (.long v), ly0, I, L, R0)) (kk : P (F_X9_form_38 I L a1)) : V (zM x_X9_form 4 0 0 t) 38 [(0, .ref 33), (1, .int a1)] [] ly0 I L R0 0 0 :=
  V_ldc2 (tat ok_X9_form_0 (i := 18) (q := 41) rfl rfl) (gw_in kl_X9_204 rfl) <|
    V_X9_form_41  hr (jx (P := P) kk rfl)
def F_X9_form (I : WI) (L : WL) (a1 : Int32) : Int64 :=
  (if a1 = 0 then (F_X9_form_41 I L a1 (F_X9_formNow I (L 33 2))) else (if a1 = 1 then (if (bz (I 33 4)) = 0 then (F_X9_form_38 I L a1) else (F_X9_form_41 I L a1 (F_X9_formNow I (L 33 3)))) else (F_X9_form_38 I L a1)))
theorem V_X9_form  {I : WI} {L : WL} {a1 : Int32}  {P : Int64 → Prop} {t : Tg} (hr : ∀ v, P v → t = (some (.long v), ly0, I, L, R0)) (kk : P (F_X9_form I L a1)) : V (zM x_X9_form 4 0 0 t) 0 [(0, .ref 33), (1, .int a1)] [] ly0 I L R0 0 0 :=
  V_iload_n (tat ok_X9_form_0 (i := 0) (q := 1) rfl rfl) 1 rfl rfl <|
    V_if_ne (tat ok_X9_form_0 (i := 1) (q := 4) rfl rfl) rfl (fun c1 => V_iload_n (tat ok_X9_form_0 (i := 7) (q := 16) rfl rfl) 1 rfl rfl <|
    V_iconst (tat ok_X9_form_0 (i := 8) (q := 17) rfl rfl) ic_1 <|
    V_icmp_ne (tat ok_X9_form_0 (i := 9) (q := 20) rfl rfl) rfl (fun c2 => V_X9_form_38  hr (jx (P := P) kk (Eq.trans (if_neg c1) (if_neg c2)))) (fun c2 => V_aload_n (tat ok_X9_form_0 (i := 10) (q := 21) rfl rfl) 0 rfl rfl <|
    V_getZ (tat ok_X9_form_0 (i := 11) (q := 24) rfl rfl) fk_X9_86 rfl <|
    V_if_eq (tat ok_X9_form_0 (i := 12) (q := 27) rfl rfl) rfl (fun c3 => V_X9_form_38  hr (jx (P := P) kk (Eq.trans (if_neg c1) (Eq.trans (if_pos c2) (if_pos c3))))) (fun c3 => V_aload_n (tat ok_X9_form_0 (i := 13) (q := 28) rfl rfl) 0 rfl rfl <|
    V_aload_n (tat ok_X9_form_0 (i := 14) (q := 29) rfl rfl) 0 rfl rfl <|
    V_getL (tat ok_X9_form_0 (i := 15) (q := 32) rfl rfl) fk_X9_83 rfl <|
    V_cv1 (ct_X9_formNow I L (L 33 3) ) mo_X9_formNow (tat ok_X9_form_0 (i := 16) (q := 35) rfl rfl) ml_X9_231 rfl ⟨by decide, _, rfl, rfl⟩ ⟨(Nat.le_of_ble_eq_true rfl), (Nat.le_of_ble_eq_true rfl)⟩ ⟨(Nat.le_of_ble_eq_true rfl), (Nat.le_of_ble_eq_true rfl)⟩ (Nat.le_of_ble_eq_true rfl) <|
    V_goto (tat ok_X9_form_0 (i := 17) (q := 38) rfl rfl) rfl <|
    V_X9_form_41  hr (jx (P := P) kk (Eq.trans (if_neg c1) (Eq.trans (if_pos c2) (if_neg c3))))))) (fun c1 => V_aload_n (tat ok_X9_form_0 (i := 2) (q := 5) rfl rfl) 0 rfl rfl <|
    V_aload_n (tat ok_X9_form_0 (i := 3) (q := 6) rfl rfl) 0 rfl rfl <|
    V_getL (tat ok_X9_form_0 (i := 4) (q := 9) rfl rfl) fk_X9_80 rfl <|
    V_cv1 (ct_X9_formNow I L (L 33 2) ) mo_X9_formNow (tat ok_X9_form_0 (i := 5) (q := 12) rfl rfl) ml_X9_231 rfl ⟨by decide, _, rfl, rfl⟩ ⟨(Nat.le_of_ble_eq_true rfl), (Nat.le_of_ble_eq_true rfl)⟩ ⟨(Nat.le_of_ble_eq_true rfl), (Nat.le_of_ble_eq_true rfl)⟩ (Nat.le_of_ble_eq_true rfl) <|
    V_goto (tat ok_X9_form_0 (i := 6) (q := 15) rfl rfl) rfl <|
    V_X9_form_41  hr (jx (P := P) kk (if_pos c1)))
theorem ct_X9_form  (I : WI) (L : WL) (a1 : Int32)  : Ct x_X9_form 4 [.ref 33, .int a1] ly0 I L R0 0 0 (some (.long (F_X9_form I L a1)), ly0, I, L, R0) :=
  Ct_of_V mo_X9_form.1 (Nat.le_of_ble_eq_true rfl) (V_X9_form (P := fun x => x = (F_X9_form I L a1))  (fun _ e => by rw [e]) rfl)
def F_X9_forms (I : WI) : Int64 :=
  (lsh 1 (((I 33 0) - 1) * ((I 33 1) - 1)))
theorem V_X9_forms  {I : WI} {L : WL}   {P : Int64 → Prop} {t : Tg} (hr : ∀ v, P v → t = (some (.long v), ly0, I, L, R0)) (kk : P (F_X9_forms I)) : V (zM x_X9_forms 1 0 0 t) 0 [(0, .ref 33)] [] ly0 I L R0 0 0 :=
  V_lconst (v := 1) (tat ok_X9_forms_0 (i := 0) (q := 1) rfl rfl) rfl <|
    V_aload_n (tat ok_X9_forms_0 (i := 1) (q := 2) rfl rfl) 0 rfl rfl <|
    V_getI (tat ok_X9_forms_0 (i := 2) (q := 5) rfl rfl) fk_X9_74 rfl <|
    V_iconst (tat ok_X9_forms_0 (i := 3) (q := 6) rfl rfl) ic_1 <|
    V_isub (tat ok_X9_forms_0 (i := 4) (q := 7) rfl rfl) <|
    V_aload_n (tat ok_X9_forms_0 (i := 5) (q := 8) rfl rfl) 0 rfl rfl <|
    V_getI (tat ok_X9_forms_0 (i := 6) (q := 11) rfl rfl) fk_X9_77 rfl <|
    V_iconst (tat ok_X9_forms_0 (i := 7) (q := 12) rfl rfl) ic_1 <|
    V_isub (tat ok_X9_forms_0 (i := 8) (q := 13) rfl rfl) <|
    V_imul (tat ok_X9_forms_0 (i := 9) (q := 14) rfl rfl) <|
    V_lshl (tat ok_X9_forms_0 (i := 10) (q := 15) rfl rfl) <|
    V_lret (tat ok_X9_forms_0 (i := 11) (q := 16) rfl rfl) rfl (hr (lsh 1 (((I 33 0) - 1) * ((I 33 1) - 1))) (jx (P := P) kk rfl)) ⟨(Nat.le_of_ble_eq_true rfl), (Nat.le_of_ble_eq_true rfl)⟩
theorem ct_X9_forms  (I : WI) (L : WL)  : Ct x_X9_forms 1 [.ref 33] ly0 I L R0 0 0 (some (.long (F_X9_forms I)), ly0, I, L, R0) :=
  Ct_of_V mo_X9_forms.1 (Nat.le_of_ble_eq_true rfl) (V_X9_forms (P := fun x => x = (F_X9_forms I))  (fun _ e => by rw [e]) rfl)
def F_X9_isImage (a0 : Int32) : Option Int32 :=
  (if bz (F_X9_in (Int32.toInt64 a0) 0 1) = (F_X9_in (Int32.toInt64 a0) 0 1) then some (F_X9_in (Int32.toInt64 a0) 0 1) else none)
theorem V_X9_isImage  {I : WI} {L : WL} {a0 : Int32}  {P : Int32 → Prop} {t : Tg} (hr : ∀ v, P v → t = (some (.int v), ly0, I, L, R0)) : oP P (F_X9_isImage a0) → V (zM x_X9_isImage 2 0 0 t) 0 [(0, .int a0)] [] ly0 I L R0 0 0 :=
  fun _ =>
  have kq : (oP P (F_X9_isImage a0)) ∧ True := ⟨by assumption, trivial⟩
  V_iload_n (tat ok_X9_isImage_0 (i := 0) (q := 1) rfl rfl) 0 rfl rfl <|
    V_i2l (tat ok_X9_isImage_0 (i := 1) (q := 2) rfl rfl) <|
    V_lconst (v := 0) (tat ok_X9_isImage_0 (i := 2) (q := 3) rfl rfl) rfl <|
    V_lconst (v := 1) (tat ok_X9_isImage_0 (i := 3) (q := 4) rfl rfl) rfl <|
    V_cs3 (ct_X9_in I L (Int32.toInt64 a0) 0 1 ) mo_X9_in (tat ok_X9_isImage_0 (i := 4) (q := 7) rfl rfl) ml_X9_97 ⟨(Nat.le_of_ble_eq_true rfl), (Nat.le_of_ble_eq_true rfl)⟩ ⟨(Nat.le_of_ble_eq_true rfl), (Nat.le_of_ble_eq_true rfl)⟩ (Nat.le_of_ble_eq_true rfl) <|
    (if c1 : bz (F_X9_in (Int32.toInt64 a0) 0 1) = (F_X9_in (Int32.toInt64 a0) 0 1) then V_iret (tat ok_X9_isImage_0 (i := 5) (q := 8) rfl rfl) _ rfl (bz_nf c1).1 (hr (F_X9_in (Int32.toInt64 a0) 0 1) (jq (P := oP P) kq (if_pos c1))) ⟨(Nat.le_of_ble_eq_true rfl), (Nat.le_of_ble_eq_true rfl)⟩ else ((jq (P := oP P) kq (if_neg c1))).elim)
theorem ct_X9_isImage  (I : WI) (L : WL) (a0 : Int32)  {v : Int32} (h : (F_X9_isImage a0) = some v) : Ct x_X9_isImage 2 [.int a0] ly0 I L R0 0 0 (some (.int v), ly0, I, L, R0) :=
  Ct_of_V mo_X9_isImage.1 (Nat.le_of_ble_eq_true rfl) (V_X9_isImage (P := fun x => x = v)  (fun _ e => by rw [e]) (by rw [h]; exact rfl))
def F_X9_isKept_14 (I : WI) (a1 : Int32) (s0 : Int32) : Option Int32 :=
  some s0
theorem V_X9_isKept_14  {I : WI} {L : WL} {a1 : Int32} {s0 : Int32} {P : Int32 → Prop} {t : Tg} (hs0 : bz s0 = s0) (hr : ∀ v, P v → t = (some (.int v), ly0, I, L, R0)) : oP P (F_X9_isKept_14 I a1 s0) → V (zM x_X9_isKept 1 0 0 t) 14 [(0, .ref 33), (1, .int a1)] [.int s0] ly0 I L R0 0 0 :=
  fun _ =>
  have kq : (oP P (F_X9_isKept_14 I a1 s0)) ∧ True := ⟨by assumption, trivial⟩
  V_iret (tat ok_X9_isKept_0 (i := 8) (q := 15) rfl rfl) _ rfl (bz_nf hs0).1 (hr s0 (jq (P := oP P) kq rfl)) ⟨(Nat.le_of_ble_eq_true rfl), (Nat.le_of_ble_eq_true rfl)⟩
def F_X9_isKept (I : WI) (a1 : Int32) : Option Int32 :=
  (if a1 < 0 ∨ 2 ≤ Int32.toNatClampNeg a1 then none else (if (I 36 (Int32.toNatClampNeg a1)) ≤ 0 then (F_X9_isKept_14 I a1 0) else (F_X9_isKept_14 I a1 1)))
theorem V_X9_isKept  {I : WI} {L : WL} {a1 : Int32}  {P : Int32 → Prop} {t : Tg} (hr : ∀ v, P v → t = (some (.int v), ly0, I, L, R0)) : oP P (F_X9_isKept I a1) → V (zM x_X9_isKept 1 0 0 t) 0 [(0, .ref 33), (1, .int a1)] [] ly0 I L R0 0 0 :=
  fun _ =>
  have kq : (oP P (F_X9_isKept I a1)) ∧ True := ⟨by assumption, trivial⟩
  V_aload_n (tat ok_X9_isKept_0 (i := 0) (q := 1) rfl rfl) 0 rfl rfl <|
    V_getR (tat ok_X9_isKept_0 (i := 1) (q := 4) rfl rfl) fk_X9_17 rfl rfl <|
    V_iload_n (tat ok_X9_isKept_0 (i := 2) (q := 5) rfl rfl) 1 rfl rfl <|
    (if c1 : a1 < 0 ∨ 2 ≤ Int32.toNatClampNeg a1 then ((jq (P := oP P) kq (if_pos c1))).elim else V_iald (tat ok_X9_isKept_0 (i := 3) (q := 6) rfl rfl) rfl c1 <|
    V_if_le (tat ok_X9_isKept_0 (i := 4) (q := 9) rfl rfl) rfl (fun c2 => V_iconst (tat ok_X9_isKept_0 (i := 7) (q := 14) rfl rfl) ic_0 <|
    V_X9_isKept_14 rfl hr (jq (P := oP P) kq (Eq.trans (if_neg c1) (if_pos c2)))) (fun c2 => V_iconst (tat ok_X9_isKept_0 (i := 5) (q := 10) rfl rfl) ic_1 <|
    V_goto (tat ok_X9_isKept_0 (i := 6) (q := 13) rfl rfl) rfl <|
    V_X9_isKept_14 rfl hr (jq (P := oP P) kq (Eq.trans (if_neg c1) (if_neg c2)))))
theorem ct_X9_isKept  (I : WI) (L : WL) (a1 : Int32)  {v : Int32} (h : (F_X9_isKept I a1) = some v) : Ct x_X9_isKept 1 [.ref 33, .int a1] ly0 I L R0 0 0 (some (.int v), ly0, I, L, R0) :=
  Ct_of_V mo_X9_isKept.1 (Nat.le_of_ble_eq_true rfl) (V_X9_isKept (P := fun x => x = v)  (fun _ e => by rw [e]) (by rw [h]; exact rfl))
def F_X9_isOfSize_31 (I : WI) (a1 : Int32) (s0 : Int32) : Option Int32 :=
  some s0
theorem V_X9_isOfSize_31  {I : WI} {L : WL} {a1 : Int32} {s0 : Int32} {P : Int32 → Prop} {t : Tg} (hs0 : bz s0 = s0) (hr : ∀ v, P v → t = (some (.int v), ly0, I, L, R0)) : oP P (F_X9_isOfSize_31 I a1 s0) → V (zM x_X9_isOfSize 1 0 0 t) 31 [(0, .ref 33), (1, .int a1)] [.int s0] ly0 I L R0 0 0 :=
  fun _ =>
  have kq : (oP P (F_X9_isOfSize_31 I a1 s0)) ∧ True := ⟨by assumption, trivial⟩
  V_iret (tat ok_X9_isOfSize_0 (i := 17) (q := 32) rfl rfl) _ rfl (bz_nf hs0).1 (hr s0 (jq (P := oP P) kq rfl)) ⟨(Nat.le_of_ble_eq_true rfl), (Nat.le_of_ble_eq_true rfl)⟩
def F_X9_isOfSize_30 (I : WI) (a1 : Int32) : Option Int32 :=
  (F_X9_isOfSize_31 I a1 0)
theorem V_X9_isOfSize_30  {I : WI} {L : WL} {a1 : Int32}  {P : Int32 → Prop} {t : Tg} (hr : ∀ v, P v → t = (some (.int v), ly0, I, L, R0)) : oP P (F_X9_isOfSize_30 I a1) → V (zM x_X9_isOfSize 1 0 0 t) 30 [(0, .ref 33), (1, .int a1)] [] ly0 I L R0 0 0 :=
  fun _ =>
  have kq : (oP P (F_X9_isOfSize_30 I a1)) ∧ True := ⟨by assumption, trivial⟩
  V_iconst (tat ok_X9_isOfSize_0 (i := 16) (q := 31) rfl rfl) ic_0 <|
    V_X9_isOfSize_31 rfl hr (jq (P := oP P) kq rfl)
def F_X9_isOfSize (I : WI) (a1 : Int32) : Option Int32 :=
  (if a1 < 0 ∨ 2 ≤ Int32.toNatClampNeg a1 then none else (if (I 36 (Int32.toNatClampNeg a1)) = (I 33 0) then (if a1 < 0 ∨ 2 ≤ Int32.toNatClampNeg a1 then none else (if (I 37 (Int32.toNatClampNeg a1)) = (I 33 1) then (F_X9_isOfSize_31 I a1 1) else (F_X9_isOfSize_30 I a1))) else (F_X9_isOfSize_30 I a1)))
theorem V_X9_isOfSize  {I : WI} {L : WL} {a1 : Int32}  {P : Int32 → Prop} {t : Tg} (hr : ∀ v, P v → t = (some (.int v), ly0, I, L, R0)) : oP P (F_X9_isOfSize I a1) → V (zM x_X9_isOfSize 1 0 0 t) 0 [(0, .ref 33), (1, .int a1)] [] ly0 I L R0 0 0 :=
  fun _ =>
  have kq : (oP P (F_X9_isOfSize I a1)) ∧ True := ⟨by assumption, trivial⟩
  V_aload_n (tat ok_X9_isOfSize_0 (i := 0) (q := 1) rfl rfl) 0 rfl rfl <|
    V_getR (tat ok_X9_isOfSize_0 (i := 1) (q := 4) rfl rfl) fk_X9_17 rfl rfl <|
    V_iload_n (tat ok_X9_isOfSize_0 (i := 2) (q := 5) rfl rfl) 1 rfl rfl <|
    (if c1 : a1 < 0 ∨ 2 ≤ Int32.toNatClampNeg a1 then ((jq (P := oP P) kq (if_pos c1))).elim else V_iald (tat ok_X9_isOfSize_0 (i := 3) (q := 6) rfl rfl) rfl c1 <|
    V_aload_n (tat ok_X9_isOfSize_0 (i := 4) (q := 7) rfl rfl) 0 rfl rfl <|
    V_getI (tat ok_X9_isOfSize_0 (i := 5) (q := 10) rfl rfl) fk_X9_74 rfl <|
    V_icmp_ne (tat ok_X9_isOfSize_0 (i := 6) (q := 13) rfl rfl) rfl (fun c2 => V_X9_isOfSize_30  hr (jq (P := oP P) kq (Eq.trans (if_neg c1) (if_neg c2)))) (fun c2 => V_aload_n (tat ok_X9_isOfSize_0 (i := 7) (q := 14) rfl rfl) 0 rfl rfl <|
    V_getR (tat ok_X9_isOfSize_0 (i := 8) (q := 17) rfl rfl) fk_X9_20 rfl rfl <|
    V_iload_n (tat ok_X9_isOfSize_0 (i := 9) (q := 18) rfl rfl) 1 rfl rfl <|
    (if c3 : a1 < 0 ∨ 2 ≤ Int32.toNatClampNeg a1 then ((jq (P := oP P) kq (Eq.trans (if_neg c1) (Eq.trans (if_pos c2) (if_pos c3))))).elim else V_iald (tat ok_X9_isOfSize_0 (i := 10) (q := 19) rfl rfl) rfl c3 <|
    V_aload_n (tat ok_X9_isOfSize_0 (i := 11) (q := 20) rfl rfl) 0 rfl rfl <|
    V_getI (tat ok_X9_isOfSize_0 (i := 12) (q := 23) rfl rfl) fk_X9_77 rfl <|
    V_icmp_ne (tat ok_X9_isOfSize_0 (i := 13) (q := 26) rfl rfl) rfl (fun c4 => V_X9_isOfSize_30  hr (jq (P := oP P) kq (Eq.trans (if_neg c1) (Eq.trans (if_pos c2) (Eq.trans (if_neg c3) (if_neg c4)))))) (fun c4 => V_iconst (tat ok_X9_isOfSize_0 (i := 14) (q := 27) rfl rfl) ic_1 <|
    V_goto (tat ok_X9_isOfSize_0 (i := 15) (q := 30) rfl rfl) rfl <|
    V_X9_isOfSize_31 rfl hr (jq (P := oP P) kq (Eq.trans (if_neg c1) (Eq.trans (if_pos c2) (Eq.trans (if_neg c3) (if_pos c4)))))))))
theorem ct_X9_isOfSize  (I : WI) (L : WL) (a1 : Int32)  {v : Int32} (h : (F_X9_isOfSize I a1) = some v) : Ct x_X9_isOfSize 1 [.ref 33, .int a1] ly0 I L R0 0 0 (some (.int v), ly0, I, L, R0) :=
  Ct_of_V mo_X9_isOfSize.1 (Nat.le_of_ble_eq_true rfl) (V_X9_isOfSize (P := fun x => x = v)  (fun _ e => by rw [e]) (by rw [h]; exact rfl))
def F_X9_alike_53 (I : WI) (L : WL) (a1 : Int32) (s0 : Int32) : Option Int32 :=
  some (F_X9_flag s0)
theorem V_X9_alike_53  {I : WI} {L : WL} {a1 : Int32} {s0 : Int32} {P : Int32 → Prop} {t : Tg} (hs0 : bz s0 = s0) (hr : ∀ v, P v → t = (some (.int v), ly0, I, L, R0)) : oP P (F_X9_alike_53 I L a1 s0) → V (zM x_X9_alike 4 0 0 t) 53 [(0, .ref 33), (1, .int a1)] [.int s0] ly0 I L R0 0 0 :=
  fun _ =>
  have kq : (oP P (F_X9_alike_53 I L a1 s0)) ∧ True := ⟨by assumption, trivial⟩
  V_cs1 (ct_X9_flag I L s0 ) mo_X9_flag (tat ok_X9_alike_0 (i := 30) (q := 56) rfl rfl) ml_X9_200 ⟨(Nat.le_of_ble_eq_true rfl), (Nat.le_of_ble_eq_true rfl)⟩ ⟨(Nat.le_of_ble_eq_true rfl), (Nat.le_of_ble_eq_true rfl)⟩ (Nat.le_of_ble_eq_true rfl) <|
    V_iret (tat ok_X9_alike_0 (i := 31) (q := 57) rfl rfl) _ rfl (nar_int _) (hr (F_X9_flag s0) (jq (P := oP P) kq rfl)) ⟨(Nat.le_of_ble_eq_true rfl), (Nat.le_of_ble_eq_true rfl)⟩
def F_X9_alike_52 (I : WI) (L : WL) (a1 : Int32) : Option Int32 :=
  (F_X9_alike_53 I L a1 0)
theorem V_X9_alike_52  {I : WI} {L : WL} {a1 : Int32}  {P : Int32 → Prop} {t : Tg} (hr : ∀ v, P v → t = (some (.int v), ly0, I, L, R0)) : oP P (F_X9_alike_52 I L a1) → V (zM x_X9_alike 4 0 0 t) 52 [(0, .ref 33), (1, .int a1)] [] ly0 I L R0 0 0 :=
  fun _ =>
  have kq : (oP P (F_X9_alike_52 I L a1)) ∧ True := ⟨by assumption, trivial⟩
  V_iconst (tat ok_X9_alike_0 (i := 29) (q := 53) rfl rfl) ic_0 <|
    V_X9_alike_53 rfl hr (jq (P := oP P) kq rfl)
def F_X9_alike (I : WI) (L : WL) (a1 : Int32) : Option Int32 :=
  (Option.bind (F_X9_isImage a1) (fun v1 => (if v1 = 0 then some (-1) else (Option.bind (F_X9_isKept I a1) (fun v3 => (if v3 = 0 then some (-2) else (Option.bind (F_X9_isOfSize I a1) (fun v5 => (if v5 = 0 then (F_X9_alike_52 I L a1) else (if a1 < 0 ∨ 2 ≤ Int32.toNatClampNeg a1 then none else (if (lg_cmp (F_X9_formNow I ((L 33 2) ^^^ (L 35 (Int32.toNatClampNeg a1)))) 0) = 0 then (F_X9_alike_53 I L a1 1) else (F_X9_alike_52 I L a1))))))))))))
theorem V_X9_alike  {I : WI} {L : WL} {a1 : Int32}  {P : Int32 → Prop} {t : Tg} (hr : ∀ v, P v → t = (some (.int v), ly0, I, L, R0)) : oP P (F_X9_alike I L a1) → V (zM x_X9_alike 4 0 0 t) 0 [(0, .ref 33), (1, .int a1)] [] ly0 I L R0 0 0 :=
  fun _ =>
  have kq : (oP P (F_X9_alike I L a1)) ∧ True := ⟨by assumption, trivial⟩
  V_iload_n (tat ok_X9_alike_0 (i := 0) (q := 1) rfl rfl) 1 rfl rfl <|
    oP_case (jq (P := oP P) kq rfl) (fun v1 e1 _ => V_cs1 (ct_X9_isImage I L a1  e1) mo_X9_isImage (tat ok_X9_alike_0 (i := 1) (q := 4) rfl rfl) ml_X9_235 ⟨(Nat.le_of_ble_eq_true rfl), (Nat.le_of_ble_eq_true rfl)⟩ ⟨(Nat.le_of_ble_eq_true rfl), (Nat.le_of_ble_eq_true rfl)⟩ (Nat.le_of_ble_eq_true rfl) <|
    V_if_ne (tat ok_X9_alike_0 (i := 2) (q := 7) rfl rfl) rfl (fun c2 => V_aload_n (tat ok_X9_alike_0 (i := 5) (q := 10) rfl rfl) 0 rfl rfl <|
    V_iload_n (tat ok_X9_alike_0 (i := 6) (q := 11) rfl rfl) 1 rfl rfl <|
    oP_case (jq (P := oP P) kq (Eq.trans (ob e1) (if_neg c2))) (fun v3 e3 _ => V_cv1 (ct_X9_isKept I L a1  e3) mo_X9_isKept (tat ok_X9_alike_0 (i := 7) (q := 14) rfl rfl) ml_X9_239 rfl ⟨by decide, _, rfl, rfl⟩ ⟨(Nat.le_of_ble_eq_true rfl), (Nat.le_of_ble_eq_true rfl)⟩ ⟨(Nat.le_of_ble_eq_true rfl), (Nat.le_of_ble_eq_true rfl)⟩ (Nat.le_of_ble_eq_true rfl) <|
    V_if_ne (tat ok_X9_alike_0 (i := 8) (q := 17) rfl rfl) rfl (fun c4 => V_aload_n (tat ok_X9_alike_0 (i := 11) (q := 21) rfl rfl) 0 rfl rfl <|
    V_iload_n (tat ok_X9_alike_0 (i := 12) (q := 22) rfl rfl) 1 rfl rfl <|
    oP_case (jq (P := oP P) kq (Eq.trans (ob e1) (Eq.trans (if_neg c2) (Eq.trans (ob e3) (if_neg c4))))) (fun v5 e5 _ => V_cv1 (ct_X9_isOfSize I L a1  e5) mo_X9_isOfSize (tat ok_X9_alike_0 (i := 13) (q := 25) rfl rfl) ml_X9_242 rfl ⟨by decide, _, rfl, rfl⟩ ⟨(Nat.le_of_ble_eq_true rfl), (Nat.le_of_ble_eq_true rfl)⟩ ⟨(Nat.le_of_ble_eq_true rfl), (Nat.le_of_ble_eq_true rfl)⟩ (Nat.le_of_ble_eq_true rfl) <|
    V_if_eq (tat ok_X9_alike_0 (i := 14) (q := 28) rfl rfl) rfl (fun c6 => V_X9_alike_52  hr (jq (P := oP P) kq (Eq.trans (ob e1) (Eq.trans (if_neg c2) (Eq.trans (ob e3) (Eq.trans (if_neg c4) (Eq.trans (ob e5) (if_pos c6)))))))) (fun c6 => V_aload_n (tat ok_X9_alike_0 (i := 15) (q := 29) rfl rfl) 0 rfl rfl <|
    V_aload_n (tat ok_X9_alike_0 (i := 16) (q := 30) rfl rfl) 0 rfl rfl <|
    V_getL (tat ok_X9_alike_0 (i := 17) (q := 33) rfl rfl) fk_X9_80 rfl <|
    V_aload_n (tat ok_X9_alike_0 (i := 18) (q := 34) rfl rfl) 0 rfl rfl <|
    V_getR (tat ok_X9_alike_0 (i := 19) (q := 37) rfl rfl) fk_X9_13 rfl rfl <|
    V_iload_n (tat ok_X9_alike_0 (i := 20) (q := 38) rfl rfl) 1 rfl rfl <|
    (if c7 : a1 < 0 ∨ 2 ≤ Int32.toNatClampNeg a1 then ((jq (P := oP P) kq (Eq.trans (ob e1) (Eq.trans (if_neg c2) (Eq.trans (ob e3) (Eq.trans (if_neg c4) (Eq.trans (ob e5) (Eq.trans (if_neg c6) (if_pos c7))))))))).elim else V_lald (tat ok_X9_alike_0 (i := 21) (q := 39) rfl rfl) rfl c7 <|
    V_lxor (tat ok_X9_alike_0 (i := 22) (q := 40) rfl rfl) <|
    V_cv1 (ct_X9_formNow I L ((L 33 2) ^^^ (L 35 (Int32.toNatClampNeg a1))) ) mo_X9_formNow (tat ok_X9_alike_0 (i := 23) (q := 43) rfl rfl) ml_X9_231 rfl ⟨by decide, _, rfl, rfl⟩ ⟨(Nat.le_of_ble_eq_true rfl), (Nat.le_of_ble_eq_true rfl)⟩ ⟨(Nat.le_of_ble_eq_true rfl), (Nat.le_of_ble_eq_true rfl)⟩ (Nat.le_of_ble_eq_true rfl) <|
    V_lconst (v := 0) (tat ok_X9_alike_0 (i := 24) (q := 44) rfl rfl) rfl <|
    V_lcmp (tat ok_X9_alike_0 (i := 25) (q := 45) rfl rfl) <|
    V_if_ne (tat ok_X9_alike_0 (i := 26) (q := 48) rfl rfl) rfl (fun c8 => V_X9_alike_52  hr (jq (P := oP P) kq (Eq.trans (ob e1) (Eq.trans (if_neg c2) (Eq.trans (ob e3) (Eq.trans (if_neg c4) (Eq.trans (ob e5) (Eq.trans (if_neg c6) (Eq.trans (if_neg c7) (if_neg c8)))))))))) (fun c8 => V_iconst (tat ok_X9_alike_0 (i := 27) (q := 49) rfl rfl) ic_1 <|
    V_goto (tat ok_X9_alike_0 (i := 28) (q := 52) rfl rfl) rfl <|
    V_X9_alike_53 rfl hr (jq (P := oP P) kq (Eq.trans (ob e1) (Eq.trans (if_neg c2) (Eq.trans (ob e3) (Eq.trans (if_neg c4) (Eq.trans (ob e5) (Eq.trans (if_neg c6) (Eq.trans (if_neg c7) (if_pos c8)))))))))))))) (fun c4 => V_bipush (tat ok_X9_alike_0 (i := 9) (q := 19) rfl rfl) bp_m2 <|
    V_iret (tat ok_X9_alike_0 (i := 10) (q := 20) rfl rfl) _ rfl (nar_int _) (hr (-2) (jq (P := oP P) kq (Eq.trans (ob e1) (Eq.trans (if_neg c2) (Eq.trans (ob e3) (if_pos c4)))))) ⟨(Nat.le_of_ble_eq_true rfl), (Nat.le_of_ble_eq_true rfl)⟩))) (fun c2 => V_iconst (tat ok_X9_alike_0 (i := 3) (q := 8) rfl rfl) ic_m1 <|
    V_iret (tat ok_X9_alike_0 (i := 4) (q := 9) rfl rfl) _ rfl (nar_int _) (hr (-1) (jq (P := oP P) kq (Eq.trans (ob e1) (if_pos c2)))) ⟨(Nat.le_of_ble_eq_true rfl), (Nat.le_of_ble_eq_true rfl)⟩))
theorem ct_X9_alike  (I : WI) (L : WL) (a1 : Int32)  {v : Int32} (h : (F_X9_alike I L a1) = some v) : Ct x_X9_alike 4 [.ref 33, .int a1] ly0 I L R0 0 0 (some (.int v), ly0, I, L, R0) :=
  Ct_of_V mo_X9_alike.1 (Nat.le_of_ble_eq_true rfl) (V_X9_alike (P := fun x => x = v)  (fun _ e => by rw [e]) (by rw [h]; exact rfl))
def F_X9_findPlan_29_1 (I : WI) (a1 : Int64) (a3 : Int32) (a5 : Int32) (a4 : Int32) : Int32 :=
  (a4 ||| ((F_X9_isDark a1 0 a5) <<< (a5 &&& 31)))
theorem V_X9_findPlan_29_1  {I : WI} {L : WL} {a1 : Int64} {a3 : Int32} {a5 : Int32} {a4 : Int32} {P : Int32 → Prop} {t : Tg} (hb3 : bz a3 = a3) (hk : ∀ x : Int32, P x → V (zM x_X9_findPlan 4 0 0 t) 20 [(0, .ref 33), (1, .long a1), (3, .int a3), (4, .int x), (5, .int (a5 + 1))] [] ly0 I L R0 0 0) (kk : P (F_X9_findPlan_29_1 I a1 a3 a5 a4)) : V (zM x_X9_findPlan 4 0 0 t) 29 [(0, .ref 33), (1, .long a1), (3, .int a3), (4, .int a4), (5, .int a5)] [] ly0 I L R0 0 0 :=
  V_iload (tat ok_X9_findPlan_0 (i := 18) (q := 31) rfl rfl) 3 rfl <|
    V_lload_n (tat ok_X9_findPlan_0 (i := 19) (q := 32) rfl rfl) 1 rfl rfl <|
    V_iconst (tat ok_X9_findPlan_0 (i := 20) (q := 33) rfl rfl) ic_0 <|
    V_iload (tat ok_X9_findPlan_0 (i := 21) (q := 35) rfl rfl) 4 rfl <|
    V_cs3 (ct_X9_isDark I L a1 0 a5 ) mo_X9_isDark (tat ok_X9_findPlan_0 (i := 22) (q := 38) rfl rfl) ml_X9_210 ⟨(Nat.le_of_ble_eq_true rfl), (Nat.le_of_ble_eq_true rfl)⟩ ⟨(Nat.le_of_ble_eq_true rfl), (Nat.le_of_ble_eq_true rfl)⟩ (Nat.le_of_ble_eq_true rfl) <|
    V_iload (tat ok_X9_findPlan_0 (i := 23) (q := 40) rfl rfl) 4 rfl <|
    V_ishl (tat ok_X9_findPlan_0 (i := 24) (q := 41) rfl rfl) <|
    V_ior (tat ok_X9_findPlan_0 (i := 25) (q := 42) rfl rfl) <|
    V_istore (lv' := [(4, .int (a4 ||| ((F_X9_isDark a1 0 a5) <<< (a5 &&& 31)))), (0, .ref 33), (1, .long a1), (3, .int a3), (5, .int a5)]) (tat ok_X9_findPlan_0 (i := 26) (q := 44) rfl rfl) (Nat.le_of_ble_eq_true rfl) rfl <|
    V_iinc (v := (a5 + 1)) (lv' := [(5, .int (a5 + 1)), (4, .int (a4 ||| ((F_X9_isDark a1 0 a5) <<< (a5 &&& 31)))), (0, .ref 33), (1, .long a1), (3, .int a3)]) (tat ok_X9_findPlan_0 (i := 27) (q := 47) rfl rfl) 4 rfl (ia ic_1) (Nat.le_of_ble_eq_true rfl) rfl <|
    V_goto (tat ok_X9_findPlan_0 (i := 28) (q := 50) rfl rfl) rfl <|
    V_pick [2, 3, 4, 1, 0] rfl (hk (a4 ||| ((F_X9_isDark a1 0 a5) <<< (a5 &&& 31))) (jx (P := P) kk rfl))
def F_X9_findPlan_62_2 (I : WI) (a1 : Int64) (a4 : Int32) (a5 : Int32) (a3 : Int32) : Int32 :=
  (a3 ||| (((F_X9_isDark a1 a5 0) ^^^ (F_X9_isDark a1 0 0)) <<< (a5 &&& 31)))
theorem V_X9_findPlan_62_2  {I : WI} {L : WL} {a1 : Int64} {a4 : Int32} {a5 : Int32} {a3 : Int32} {P : Int32 → Prop} {t : Tg} (hk : ∀ x : Int32, P x → V (zM x_X9_findPlan 4 0 0 t) 53 [(0, .ref 33), (1, .long a1), (3, .int x), (4, .int a4), (5, .int (a5 + 1))] [] ly0 I L R0 0 0) (kk : P (F_X9_findPlan_62_2 I a1 a4 a5 a3)) : V (zM x_X9_findPlan 4 0 0 t) 62 [(0, .ref 33), (1, .long a1), (3, .int a3), (4, .int a4), (5, .int a5)] [] ly0 I L R0 0 0 :=
  V_iload_n (tat ok_X9_findPlan_0 (i := 35) (q := 63) rfl rfl) 2 rfl rfl <|
    V_lload_n (tat ok_X9_findPlan_0 (i := 36) (q := 64) rfl rfl) 1 rfl rfl <|
    V_iload (tat ok_X9_findPlan_0 (i := 37) (q := 66) rfl rfl) 4 rfl <|
    V_iconst (tat ok_X9_findPlan_0 (i := 38) (q := 67) rfl rfl) ic_0 <|
    V_cs3 (ct_X9_isDark I L a1 a5 0 ) mo_X9_isDark (tat ok_X9_findPlan_0 (i := 39) (q := 70) rfl rfl) ml_X9_210 ⟨(Nat.le_of_ble_eq_true rfl), (Nat.le_of_ble_eq_true rfl)⟩ ⟨(Nat.le_of_ble_eq_true rfl), (Nat.le_of_ble_eq_true rfl)⟩ (Nat.le_of_ble_eq_true rfl) <|
    V_lload_n (tat ok_X9_findPlan_1 (i := 0) (q := 71) rfl rfl) 1 rfl rfl <|
    V_iconst (tat ok_X9_findPlan_1 (i := 1) (q := 72) rfl rfl) ic_0 <|
    V_iconst (tat ok_X9_findPlan_1 (i := 2) (q := 73) rfl rfl) ic_0 <|
    V_cs3 (ct_X9_isDark I L a1 0 0 ) mo_X9_isDark (tat ok_X9_findPlan_1 (i := 3) (q := 76) rfl rfl) ml_X9_210 ⟨(Nat.le_of_ble_eq_true rfl), (Nat.le_of_ble_eq_true rfl)⟩ ⟨(Nat.le_of_ble_eq_true rfl), (Nat.le_of_ble_eq_true rfl)⟩ (Nat.le_of_ble_eq_true rfl) <|
    V_ixor (tat ok_X9_findPlan_1 (i := 4) (q := 77) rfl rfl) <|
    V_iload (tat ok_X9_findPlan_1 (i := 5) (q := 79) rfl rfl) 4 rfl <|
    V_ishl (tat ok_X9_findPlan_1 (i := 6) (q := 80) rfl rfl) <|
    V_ior (tat ok_X9_findPlan_1 (i := 7) (q := 81) rfl rfl) <|
    V_istore_n (lv' := [(3, .int (a3 ||| (((F_X9_isDark a1 a5 0) ^^^ (F_X9_isDark a1 0 0)) <<< (a5 &&& 31)))), (0, .ref 33), (1, .long a1), (4, .int a4), (5, .int a5)]) (tat ok_X9_findPlan_1 (i := 8) (q := 82) rfl rfl) rfl (Nat.le_of_ble_eq_true rfl) rfl <|
    V_iinc (v := (a5 + 1)) (lv' := [(5, .int (a5 + 1)), (3, .int (a3 ||| (((F_X9_isDark a1 a5 0) ^^^ (F_X9_isDark a1 0 0)) <<< (a5 &&& 31)))), (0, .ref 33), (1, .long a1), (4, .int a4)]) (tat ok_X9_findPlan_1 (i := 9) (q := 85) rfl rfl) 4 rfl (ia ic_1) (Nat.le_of_ble_eq_true rfl) rfl <|
    V_goto (tat ok_X9_findPlan_1 (i := 10) (q := 88) rfl rfl) rfl <|
    V_pick [2, 3, 1, 4, 0] rfl (hk (a3 ||| (((F_X9_isDark a1 a5 0) ^^^ (F_X9_isDark a1 0 0)) <<< (a5 &&& 31))) (jx (P := P) kk rfl))
def F_X9_findPlan_243 (I : WI) (a1 : Int64) : (Int32 × WI) :=
  (1, I)
theorem V_X9_findPlan_243  {I : WI} {L : WL} {a1 : Int64}  {P : (Int32 × WI) → Prop} {t : Tg} (hr : ∀ v, P v → t = (some (.int (p1 v)), ly0, (p2 v), L, R0)) (kk : P (F_X9_findPlan_243 I a1)) : V (zM x_X9_findPlan 4 0 0 t) 243 [(0, .ref 33), (1, .long a1)] [] ly0 I L R0 0 0 :=
  V_iconst (tat ok_X9_findPlan_3 (i := 21) (q := 244) rfl rfl) ic_1 <|
    V_iret (tat ok_X9_findPlan_3 (i := 22) (q := 245) rfl rfl) _ rfl rfl (hr (1, I) (jx (P := P) kk rfl)) ⟨(Nat.le_of_ble_eq_true rfl), (Nat.le_of_ble_eq_true rfl)⟩
def F_X9_findPlan_240 (I : WI) (a1 : Int64) (s0 : Int32) : (Int32 × WI) :=
  (F_X9_findPlan_243 (u2 I 33 31 s0) a1)
theorem V_X9_findPlan_240  {I : WI} {L : WL} {a1 : Int64} {s0 : Int32} {P : (Int32 × WI) → Prop} {t : Tg} (hr : ∀ v, P v → t = (some (.int (p1 v)), ly0, (p2 v), L, R0)) (kk : P (F_X9_findPlan_240 I a1 s0)) : V (zM x_X9_findPlan 4 0 0 t) 240 [(0, .ref 33), (1, .long a1)] [.int s0, .ref 33] ly0 I L R0 0 0 :=
  V_putI (tat ok_X9_findPlan_3 (i := 20) (q := 243) rfl rfl) fk_X9_245 rfl rfl <|
    V_X9_findPlan_243  hr (jx (P := P) kk rfl)
def F_X9_findPlan_224 (I : WI) (a1 : Int64) (a3 : Int32) (a7 : Int32) (s0 : Int32) : (Int32 × WI) :=
  (if a3 ≤ a7 then (F_X9_findPlan_240 (u2 I 33 32 s0) a1 a3) else (F_X9_findPlan_240 (u2 I 33 32 s0) a1 a7))
theorem V_X9_findPlan_224  {I : WI} {L : WL} {a1 : Int64} {a3 : Int32} {a7 : Int32} {s0 : Int32} {P : (Int32 × WI) → Prop} {t : Tg} (hr : ∀ v, P v → t = (some (.int (p1 v)), ly0, (p2 v), L, R0)) (kk : P (F_X9_findPlan_224 I a1 a3 a7 s0)) : V (zM x_X9_findPlan 4 0 0 t) 224 [(0, .ref 33), (1, .long a1), (3, .int a3), (7, .int a7)] [.int s0, .ref 33] ly0 I L R0 0 0 :=
  V_putI (tat ok_X9_findPlan_3 (i := 12) (q := 227) rfl rfl) fk_X9_248 rfl rfl <|
    V_aload_n (tat ok_X9_findPlan_3 (i := 13) (q := 228) rfl rfl) 0 rfl rfl <|
    V_iload (tat ok_X9_findPlan_3 (i := 14) (q := 230) rfl rfl) 3 rfl <|
    V_iload_n (tat ok_X9_findPlan_3 (i := 15) (q := 231) rfl rfl) 2 rfl rfl <|
    V_icmp_ge (tat ok_X9_findPlan_3 (i := 16) (q := 234) rfl rfl) rfl (fun c7 => V_iload_n (tat ok_X9_findPlan_3 (i := 19) (q := 240) rfl rfl) 2 rfl rfl <|
    V_pick [0, 1] rfl (V_X9_findPlan_240  hr (jx (P := P) kk (if_pos c7)))) (fun c7 => V_iload (tat ok_X9_findPlan_3 (i := 17) (q := 236) rfl rfl) 3 rfl <|
    V_goto (tat ok_X9_findPlan_3 (i := 18) (q := 239) rfl rfl) rfl <|
    V_pick [0, 1] rfl (V_X9_findPlan_240  hr (jx (P := P) kk (if_neg c7))))
def F_X9_findPlan_170 (I : WI) (a1 : Int64) (a3 : Int32) (a4 : Int32) (a5 : Int32) (s0 : Int32) : (Int32 × WI) :=
  (if (2 * a5) = (((u2 I 33 32 s0) 33 0) + ((u2 I 33 32 s0) 33 1)) then (if a3 ≤ (a3 ^^^ ((1 <<< (((u2 I 33 32 s0) 33 0) &&& 31)) - 1)) then (F_X9_findPlan_224 (u2 I 33 32 s0) a1 a3 (a3 ^^^ ((1 <<< (((u2 I 33 32 s0) 33 0) &&& 31)) - 1)) a4) else (F_X9_findPlan_224 (u2 I 33 32 s0) a1 a3 (a3 ^^^ ((1 <<< (((u2 I 33 32 s0) 33 0) &&& 31)) - 1)) (a4 ^^^ ((1 <<< (((u2 I 33 32 s0) 33 1) &&& 31)) - 1)))) else (F_X9_findPlan_243 (u2 I 33 32 s0) a1))
theorem V_X9_findPlan_170  {I : WI} {L : WL} {a1 : Int64} {a3 : Int32} {a4 : Int32} {a5 : Int32} {s0 : Int32} {P : (Int32 × WI) → Prop} {t : Tg} (hr : ∀ v, P v → t = (some (.int (p1 v)), ly0, (p2 v), L, R0)) (kk : P (F_X9_findPlan_170 I a1 a3 a4 a5 s0)) : V (zM x_X9_findPlan 4 0 0 t) 170 [(0, .ref 33), (1, .long a1), (3, .int a3), (4, .int a4), (5, .int a5)] [.int s0, .ref 33] ly0 I L R0 0 0 :=
  V_putI (tat ok_X9_findPlan_2 (i := 19) (q := 173) rfl rfl) fk_X9_248 rfl rfl <|
    V_iconst (tat ok_X9_findPlan_2 (i := 20) (q := 174) rfl rfl) ic_2 <|
    V_iload (tat ok_X9_findPlan_2 (i := 21) (q := 176) rfl rfl) 4 rfl <|
    V_imul (tat ok_X9_findPlan_2 (i := 22) (q := 177) rfl rfl) <|
    V_aload_n (tat ok_X9_findPlan_2 (i := 23) (q := 178) rfl rfl) 0 rfl rfl <|
    V_getI (tat ok_X9_findPlan_2 (i := 24) (q := 181) rfl rfl) fk_X9_74 rfl <|
    V_aload_n (tat ok_X9_findPlan_2 (i := 25) (q := 182) rfl rfl) 0 rfl rfl <|
    V_getI (tat ok_X9_findPlan_2 (i := 26) (q := 185) rfl rfl) fk_X9_77 rfl <|
    V_iadd (tat ok_X9_findPlan_2 (i := 27) (q := 186) rfl rfl) <|
    V_icmp_ne (tat ok_X9_findPlan_2 (i := 28) (q := 189) rfl rfl) rfl (fun c5 => V_pick [0, 1] rfl (V_X9_findPlan_243  hr (jx (P := P) kk (if_neg c5)))) (fun c5 => V_iload_n (tat ok_X9_findPlan_2 (i := 29) (q := 190) rfl rfl) 2 rfl rfl <|
    V_iconst (tat ok_X9_findPlan_2 (i := 30) (q := 191) rfl rfl) ic_1 <|
    V_aload_n (tat ok_X9_findPlan_2 (i := 31) (q := 192) rfl rfl) 0 rfl rfl <|
    V_getI (tat ok_X9_findPlan_2 (i := 32) (q := 195) rfl rfl) fk_X9_74 rfl <|
    V_ishl (tat ok_X9_findPlan_2 (i := 33) (q := 196) rfl rfl) <|
    V_iconst (tat ok_X9_findPlan_2 (i := 34) (q := 197) rfl rfl) ic_1 <|
    V_isub (tat ok_X9_findPlan_2 (i := 35) (q := 198) rfl rfl) <|
    V_ixor (tat ok_X9_findPlan_2 (i := 36) (q := 199) rfl rfl) <|
    V_istore (lv' := [(7, .int (a3 ^^^ ((1 <<< (((u2 I 33 32 s0) 33 0) &&& 31)) - 1))), (0, .ref 33), (1, .long a1), (3, .int a3), (4, .int a4), (5, .int a5)]) (tat ok_X9_findPlan_2 (i := 37) (q := 201) rfl rfl) (Nat.le_of_ble_eq_true rfl) rfl <|
    V_aload_n (tat ok_X9_findPlan_2 (i := 38) (q := 202) rfl rfl) 1 rfl rfl <|
    V_iload (tat ok_X9_findPlan_2 (i := 39) (q := 204) rfl rfl) 0 rfl <|
    V_iload_n (tat ok_X9_findPlan_3 (i := 0) (q := 205) rfl rfl) 3 rfl rfl <|
    V_icmp_ge (tat ok_X9_findPlan_3 (i := 1) (q := 208) rfl rfl) rfl (fun c6 => V_iload (tat ok_X9_findPlan_3 (i := 11) (q := 224) rfl rfl) 4 rfl <|
    V_pick [1, 2, 3, 0] rfl (V_X9_findPlan_224  hr (jx (P := P) kk (Eq.trans (if_pos c5) (if_pos c6))))) (fun c6 => V_iload (tat ok_X9_findPlan_3 (i := 2) (q := 210) rfl rfl) 4 rfl <|
    V_iconst (tat ok_X9_findPlan_3 (i := 3) (q := 211) rfl rfl) ic_1 <|
    V_aload_n (tat ok_X9_findPlan_3 (i := 4) (q := 212) rfl rfl) 1 rfl rfl <|
    V_getI (tat ok_X9_findPlan_3 (i := 5) (q := 215) rfl rfl) fk_X9_77 rfl <|
    V_ishl (tat ok_X9_findPlan_3 (i := 6) (q := 216) rfl rfl) <|
    V_iconst (tat ok_X9_findPlan_3 (i := 7) (q := 217) rfl rfl) ic_1 <|
    V_isub (tat ok_X9_findPlan_3 (i := 8) (q := 218) rfl rfl) <|
    V_ixor (tat ok_X9_findPlan_3 (i := 9) (q := 219) rfl rfl) <|
    V_goto (tat ok_X9_findPlan_3 (i := 10) (q := 222) rfl rfl) rfl <|
    V_pick [1, 2, 3, 0] rfl (V_X9_findPlan_224  hr (jx (P := P) kk (Eq.trans (if_pos c5) (if_neg c6))))))
def F_X9_findPlan_145 (I : WI) (a1 : Int64) (a3 : Int32) (a4 : Int32) (a5 : Int32) (a6 : Int32) (s0 : Int32) : (Int32 × WI) :=
  (if a6 = 0 then (F_X9_findPlan_170 (u2 I 33 31 s0) a1 a3 a4 a5 a4) else (F_X9_findPlan_170 (u2 I 33 31 s0) a1 a3 a4 a5 (a4 ^^^ ((1 <<< (((u2 I 33 31 s0) 33 1) &&& 31)) - 1))))
theorem V_X9_findPlan_145  {I : WI} {L : WL} {a1 : Int64} {a3 : Int32} {a4 : Int32} {a5 : Int32} {a6 : Int32} {s0 : Int32} {P : (Int32 × WI) → Prop} {t : Tg} (hb6 : bz a6 = a6) (hr : ∀ v, P v → t = (some (.int (p1 v)), ly0, (p2 v), L, R0)) (kk : P (F_X9_findPlan_145 I a1 a3 a4 a5 a6 s0)) : V (zM x_X9_findPlan 4 0 0 t) 145 [(0, .ref 33), (1, .long a1), (3, .int a3), (4, .int a4), (5, .int a5), (6, .int a6)] [.int s0, .ref 33] ly0 I L R0 0 0 :=
  V_putI (tat ok_X9_findPlan_2 (i := 5) (q := 148) rfl rfl) fk_X9_245 rfl rfl <|
    V_aload_n (tat ok_X9_findPlan_2 (i := 6) (q := 149) rfl rfl) 0 rfl rfl <|
    V_iload (tat ok_X9_findPlan_2 (i := 7) (q := 151) rfl rfl) 5 rfl <|
    V_if_eq (tat ok_X9_findPlan_2 (i := 8) (q := 154) rfl rfl) rfl (fun c4 => V_iload (tat ok_X9_findPlan_2 (i := 18) (q := 170) rfl rfl) 3 rfl <|
    V_pick [0, 1, 2, 3, 4] rfl (V_X9_findPlan_170  hr (jx (P := P) kk (if_pos c4)))) (fun c4 => V_iload (tat ok_X9_findPlan_2 (i := 9) (q := 156) rfl rfl) 3 rfl <|
    V_iconst (tat ok_X9_findPlan_2 (i := 10) (q := 157) rfl rfl) ic_1 <|
    V_aload_n (tat ok_X9_findPlan_2 (i := 11) (q := 158) rfl rfl) 0 rfl rfl <|
    V_getI (tat ok_X9_findPlan_2 (i := 12) (q := 161) rfl rfl) fk_X9_77 rfl <|
    V_ishl (tat ok_X9_findPlan_2 (i := 13) (q := 162) rfl rfl) <|
    V_iconst (tat ok_X9_findPlan_2 (i := 14) (q := 163) rfl rfl) ic_1 <|
    V_isub (tat ok_X9_findPlan_2 (i := 15) (q := 164) rfl rfl) <|
    V_ixor (tat ok_X9_findPlan_2 (i := 16) (q := 165) rfl rfl) <|
    V_goto (tat ok_X9_findPlan_2 (i := 17) (q := 168) rfl rfl) rfl <|
    V_pick [0, 1, 2, 3, 4] rfl (V_X9_findPlan_170  hr (jx (P := P) kk (if_neg c4))))
def F_X9_findPlan_123 (I : WI) (a1 : Int64) (a3 : Int32) (a4 : Int32) (a5 : Int32) (s0 : Int32) : (Int32 × WI) :=
  (if s0 = 0 then (F_X9_findPlan_145 I a1 a3 a4 a5 s0 a3) else (F_X9_findPlan_145 I a1 a3 a4 a5 s0 (a3 ^^^ ((1 <<< ((I 33 0) &&& 31)) - 1))))
theorem V_X9_findPlan_123  {I : WI} {L : WL} {a1 : Int64} {a3 : Int32} {a4 : Int32} {a5 : Int32} {s0 : Int32} {P : (Int32 × WI) → Prop} {t : Tg} (hs0 : bz s0 = s0) (hr : ∀ v, P v → t = (some (.int (p1 v)), ly0, (p2 v), L, R0)) (kk : P (F_X9_findPlan_123 I a1 a3 a4 a5 s0)) : V (zM x_X9_findPlan 4 0 0 t) 123 [(0, .ref 33), (1, .long a1), (3, .int a3), (4, .int a4), (5, .int a5)] [.int s0] ly0 I L R0 0 0 :=
  V_istore (lv' := [(6, .int s0), (0, .ref 33), (1, .long a1), (3, .int a3), (4, .int a4), (5, .int a5)]) (tat ok_X9_findPlan_1 (i := 31) (q := 125) rfl rfl) (Nat.le_of_ble_eq_true rfl) rfl <|
    V_aload_n (tat ok_X9_findPlan_1 (i := 32) (q := 126) rfl rfl) 1 rfl rfl <|
    V_iload (tat ok_X9_findPlan_1 (i := 33) (q := 128) rfl rfl) 0 rfl <|
    V_if_eq (tat ok_X9_findPlan_1 (i := 34) (q := 131) rfl rfl) rfl (fun c3 => V_iload_n (tat ok_X9_findPlan_2 (i := 4) (q := 145) rfl rfl) 3 rfl rfl <|
    V_pick [1, 2, 3, 4, 5, 0] rfl (V_X9_findPlan_145 hs0 hr (jx (P := P) kk (if_pos c3)))) (fun c3 => V_iload_n (tat ok_X9_findPlan_1 (i := 35) (q := 132) rfl rfl) 3 rfl rfl <|
    V_iconst (tat ok_X9_findPlan_1 (i := 36) (q := 133) rfl rfl) ic_1 <|
    V_aload_n (tat ok_X9_findPlan_1 (i := 37) (q := 134) rfl rfl) 1 rfl rfl <|
    V_getI (tat ok_X9_findPlan_1 (i := 38) (q := 137) rfl rfl) fk_X9_74 rfl <|
    V_ishl (tat ok_X9_findPlan_1 (i := 39) (q := 138) rfl rfl) <|
    V_iconst (tat ok_X9_findPlan_2 (i := 0) (q := 139) rfl rfl) ic_1 <|
    V_isub (tat ok_X9_findPlan_2 (i := 1) (q := 140) rfl rfl) <|
    V_ixor (tat ok_X9_findPlan_2 (i := 2) (q := 141) rfl rfl) <|
    V_goto (tat ok_X9_findPlan_2 (i := 3) (q := 144) rfl rfl) rfl <|
    V_pick [1, 2, 3, 4, 5, 0] rfl (V_X9_findPlan_145 hs0 hr (jx (P := P) kk (if_neg c3))))
def F_X9_findPlan_88 (I : WI) (a1 : Int64) (a3 : Int32) (a4 : Int32) : (Int32 × WI) :=
  (if (2 * ((F_X9_many (Int32.toInt64 a3)) + (F_X9_many (Int32.toInt64 a4)))) ≤ ((I 33 0) + (I 33 1)) then (F_X9_findPlan_123 I a1 a3 a4 ((F_X9_many (Int32.toInt64 a3)) + (F_X9_many (Int32.toInt64 a4))) 0) else (F_X9_findPlan_123 I a1 a3 a4 ((F_X9_many (Int32.toInt64 a3)) + (F_X9_many (Int32.toInt64 a4))) 1))
theorem V_X9_findPlan_88  {I : WI} {L : WL} {a1 : Int64} {a3 : Int32} {a4 : Int32} {P : (Int32 × WI) → Prop} {t : Tg} (hr : ∀ v, P v → t = (some (.int (p1 v)), ly0, (p2 v), L, R0)) (kk : P (F_X9_findPlan_88 I a1 a3 a4)) : V (zM x_X9_findPlan 4 0 0 t) 88 [(0, .ref 33), (1, .long a1), (3, .int a3), (4, .int a4)] [] ly0 I L R0 0 0 :=
  V_iload_n (tat ok_X9_findPlan_1 (i := 11) (q := 89) rfl rfl) 2 rfl rfl <|
    V_i2l (tat ok_X9_findPlan_1 (i := 12) (q := 90) rfl rfl) <|
    V_cs1 (ct_X9_many I L (Int32.toInt64 a3) ) mo_X9_many (tat ok_X9_findPlan_1 (i := 13) (q := 93) rfl rfl) ml_X9_220 ⟨(Nat.le_of_ble_eq_true rfl), (Nat.le_of_ble_eq_true rfl)⟩ ⟨(Nat.le_of_ble_eq_true rfl), (Nat.le_of_ble_eq_true rfl)⟩ (Nat.le_of_ble_eq_true rfl) <|
    V_iload (tat ok_X9_findPlan_1 (i := 14) (q := 95) rfl rfl) 3 rfl <|
    V_i2l (tat ok_X9_findPlan_1 (i := 15) (q := 96) rfl rfl) <|
    V_cs1 (ct_X9_many I L (Int32.toInt64 a4) ) mo_X9_many (tat ok_X9_findPlan_1 (i := 16) (q := 99) rfl rfl) ml_X9_220 ⟨(Nat.le_of_ble_eq_true rfl), (Nat.le_of_ble_eq_true rfl)⟩ ⟨(Nat.le_of_ble_eq_true rfl), (Nat.le_of_ble_eq_true rfl)⟩ (Nat.le_of_ble_eq_true rfl) <|
    V_iadd (tat ok_X9_findPlan_1 (i := 17) (q := 100) rfl rfl) <|
    V_istore (lv' := [(5, .int ((F_X9_many (Int32.toInt64 a3)) + (F_X9_many (Int32.toInt64 a4)))), (0, .ref 33), (1, .long a1), (3, .int a3), (4, .int a4)]) (tat ok_X9_findPlan_1 (i := 18) (q := 102) rfl rfl) (Nat.le_of_ble_eq_true rfl) rfl <|
    V_iconst (tat ok_X9_findPlan_1 (i := 19) (q := 103) rfl rfl) ic_2 <|
    V_iload (tat ok_X9_findPlan_1 (i := 20) (q := 105) rfl rfl) 0 rfl <|
    V_imul (tat ok_X9_findPlan_1 (i := 21) (q := 106) rfl rfl) <|
    V_aload_n (tat ok_X9_findPlan_1 (i := 22) (q := 107) rfl rfl) 1 rfl rfl <|
    V_getI (tat ok_X9_findPlan_1 (i := 23) (q := 110) rfl rfl) fk_X9_74 rfl <|
    V_aload_n (tat ok_X9_findPlan_1 (i := 24) (q := 111) rfl rfl) 1 rfl rfl <|
    V_getI (tat ok_X9_findPlan_1 (i := 25) (q := 114) rfl rfl) fk_X9_77 rfl <|
    V_iadd (tat ok_X9_findPlan_1 (i := 26) (q := 115) rfl rfl) <|
    V_icmp_le (tat ok_X9_findPlan_1 (i := 27) (q := 118) rfl rfl) rfl (fun c2 => V_iconst (tat ok_X9_findPlan_1 (i := 30) (q := 123) rfl rfl) ic_0 <|
    V_pick [1, 2, 3, 4, 0] rfl (V_X9_findPlan_123 rfl hr (jx (P := P) kk (if_pos c2)))) (fun c2 => V_iconst (tat ok_X9_findPlan_1 (i := 28) (q := 119) rfl rfl) ic_1 <|
    V_goto (tat ok_X9_findPlan_1 (i := 29) (q := 122) rfl rfl) rfl <|
    V_pick [1, 2, 3, 4, 0] rfl (V_X9_findPlan_123 rfl hr (jx (P := P) kk (if_neg c2))))
def F_X9_findPlan_53 (I : WI) (a1 : Int64) (a3 : Int32) (a4 : Int32) (a5 : Int32) : (Int32 × WI) :=
  (fun q : Int32 × Int32 => (F_X9_findPlan_88 I a1 (p2 q) a4)) (fr0 (fun i x => (F_X9_findPlan_62_2 I a1 a4 i x)) (I 33 0) (fu a5 (I 33 0)) a5 a3)
theorem V_X9_findPlan_53  {I : WI} {L : WL} {a1 : Int64} {a3 : Int32} {a4 : Int32} {a5 : Int32} {P : (Int32 × WI) → Prop} {t : Tg} (hb3 : bz a3 = a3) (hb5 : bz a5 = a5) (hr : ∀ v, P v → t = (some (.int (p1 v)), ly0, (p2 v), L, R0)) (kk : P (F_X9_findPlan_53 I a1 a3 a4 a5)) : V (zM x_X9_findPlan 4 0 0 t) 53 [(0, .ref 33), (1, .long a1), (3, .int a3), (4, .int a4), (5, .int a5)] [] ly0 I L R0 0 0 :=
  V_fr0 (fun i x => (F_X9_findPlan_62_2 I a1 a4 i x)) (I 33 0) (fun i x => V (zM x_X9_findPlan 4 0 0 t) 53 [(0, .ref 33), (1, .long a1), (3, .int x), (4, .int a4), (5, .int i)] [] ly0 I L R0 0 0) (fun i x => P ((F_X9_findPlan_88 I a1 x a4))) (c := a5) (s := a3) (fun i x kx kb => V_iload (tat ok_X9_findPlan_0 (i := 31) (q := 55) rfl rfl) 4 rfl <|
    V_aload_n (tat ok_X9_findPlan_0 (i := 32) (q := 56) rfl rfl) 0 rfl rfl <|
    V_getI (tat ok_X9_findPlan_0 (i := 33) (q := 59) rfl rfl) fk_X9_74 rfl <|
    V_icmp_ge (tat ok_X9_findPlan_0 (i := 34) (q := 62) rfl rfl) rfl (fun c0 => V_pick [0, 1, 2, 3] rfl (V_X9_findPlan_88  hr (kx c0))) (fun c0 => V_X9_findPlan_62_2 (P := (fun x => (fun i x => V (zM x_X9_findPlan 4 0 0 t) 53 [(0, .ref 33), (1, .long a1), (3, .int x), (4, .int a4), (5, .int i)] [] ly0 I L R0 0 0) (i + 1) x))  (fun _ e => e) (kb c0))) kk
def F_X9_findPlan_50 (I : WI) (a1 : Int64) (a3 : Int32) (a4 : Int32) : (Int32 × WI) :=
  (F_X9_findPlan_53 I a1 a3 a4 0)
theorem V_X9_findPlan_50  {I : WI} {L : WL} {a1 : Int64} {a3 : Int32} {a4 : Int32} {P : (Int32 × WI) → Prop} {t : Tg} (hb3 : bz a3 = a3) (hr : ∀ v, P v → t = (some (.int (p1 v)), ly0, (p2 v), L, R0)) (kk : P (F_X9_findPlan_50 I a1 a3 a4)) : V (zM x_X9_findPlan 4 0 0 t) 50 [(0, .ref 33), (1, .long a1), (3, .int a3), (4, .int a4)] [] ly0 I L R0 0 0 :=
  V_iconst (tat ok_X9_findPlan_0 (i := 29) (q := 51) rfl rfl) ic_0 <|
    V_istore (lv' := [(5, .int 0), (0, .ref 33), (1, .long a1), (3, .int a3), (4, .int a4)]) (tat ok_X9_findPlan_0 (i := 30) (q := 53) rfl rfl) (Nat.le_of_ble_eq_true rfl) rfl <|
    V_pick [1, 2, 3, 4, 0] rfl (V_X9_findPlan_53 hb3 rfl hr (jx (P := P) kk rfl))
def F_X9_findPlan_20 (I : WI) (a1 : Int64) (a3 : Int32) (a4 : Int32) (a5 : Int32) : (Int32 × WI) :=
  (fun q : Int32 × Int32 => (F_X9_findPlan_50 I a1 a3 (p2 q))) (fr0 (fun i x => (F_X9_findPlan_29_1 I a1 a3 i x)) (I 33 1) (fu a5 (I 33 1)) a5 a4)
theorem V_X9_findPlan_20  {I : WI} {L : WL} {a1 : Int64} {a3 : Int32} {a4 : Int32} {a5 : Int32} {P : (Int32 × WI) → Prop} {t : Tg} (hb3 : bz a3 = a3) (hb4 : bz a4 = a4) (hb5 : bz a5 = a5) (hr : ∀ v, P v → t = (some (.int (p1 v)), ly0, (p2 v), L, R0)) (kk : P (F_X9_findPlan_20 I a1 a3 a4 a5)) : V (zM x_X9_findPlan 4 0 0 t) 20 [(0, .ref 33), (1, .long a1), (3, .int a3), (4, .int a4), (5, .int a5)] [] ly0 I L R0 0 0 :=
  V_fr0 (fun i x => (F_X9_findPlan_29_1 I a1 a3 i x)) (I 33 1) (fun i x => V (zM x_X9_findPlan 4 0 0 t) 20 [(0, .ref 33), (1, .long a1), (3, .int a3), (4, .int x), (5, .int i)] [] ly0 I L R0 0 0) (fun i x => P ((F_X9_findPlan_50 I a1 a3 x))) (c := a5) (s := a4) (fun i x kx kb => V_iload (tat ok_X9_findPlan_0 (i := 14) (q := 22) rfl rfl) 4 rfl <|
    V_aload_n (tat ok_X9_findPlan_0 (i := 15) (q := 23) rfl rfl) 0 rfl rfl <|
    V_getI (tat ok_X9_findPlan_0 (i := 16) (q := 26) rfl rfl) fk_X9_77 rfl <|
    V_icmp_ge (tat ok_X9_findPlan_0 (i := 17) (q := 29) rfl rfl) rfl (fun c0 => V_pick [0, 1, 2, 3] rfl (V_X9_findPlan_50 hb3 hr (kx c0))) (fun c0 => V_X9_findPlan_29_1 (P := (fun x => (fun i x => V (zM x_X9_findPlan 4 0 0 t) 20 [(0, .ref 33), (1, .long a1), (3, .int a3), (4, .int x), (5, .int i)] [] ly0 I L R0 0 0) (i + 1) x)) hb3 (fun _ e => e) (kb c0))) kk
def F_X9_findPlan (I : WI) (a1 : Int64) : (Int32 × WI) :=
  (if (lg_cmp (F_X9_formNow I a1) 0) = 0 then (F_X9_findPlan_20 I a1 0 0 0) else (0, I))
theorem V_X9_findPlan  {I : WI} {L : WL} {a1 : Int64}  {P : (Int32 × WI) → Prop} {t : Tg} (hr : ∀ v, P v → t = (some (.int (p1 v)), ly0, (p2 v), L, R0)) (kk : P (F_X9_findPlan I a1)) : V (zM x_X9_findPlan 4 0 0 t) 0 [(0, .ref 33), (1, .long a1)] [] ly0 I L R0 0 0 :=
  V_aload_n (tat ok_X9_findPlan_0 (i := 0) (q := 1) rfl rfl) 0 rfl rfl <|
    V_lload_n (tat ok_X9_findPlan_0 (i := 1) (q := 2) rfl rfl) 1 rfl rfl <|
    V_cv1 (ct_X9_formNow I L a1 ) mo_X9_formNow (tat ok_X9_findPlan_0 (i := 2) (q := 5) rfl rfl) ml_X9_231 rfl ⟨by decide, _, rfl, rfl⟩ ⟨(Nat.le_of_ble_eq_true rfl), (Nat.le_of_ble_eq_true rfl)⟩ ⟨(Nat.le_of_ble_eq_true rfl), (Nat.le_of_ble_eq_true rfl)⟩ (Nat.le_of_ble_eq_true rfl) <|
    V_lconst (v := 0) (tat ok_X9_findPlan_0 (i := 3) (q := 6) rfl rfl) rfl <|
    V_lcmp (tat ok_X9_findPlan_0 (i := 4) (q := 7) rfl rfl) <|
    V_if_eq (tat ok_X9_findPlan_0 (i := 5) (q := 10) rfl rfl) rfl (fun c1 => V_iconst (tat ok_X9_findPlan_0 (i := 8) (q := 13) rfl rfl) ic_0 <|
    V_istore_n (lv' := [(3, .int 0), (0, .ref 33), (1, .long a1)]) (tat ok_X9_findPlan_0 (i := 9) (q := 14) rfl rfl) rfl (Nat.le_of_ble_eq_true rfl) rfl <|
    V_iconst (tat ok_X9_findPlan_0 (i := 10) (q := 15) rfl rfl) ic_0 <|
    V_istore (lv' := [(4, .int 0), (3, .int 0), (0, .ref 33), (1, .long a1)]) (tat ok_X9_findPlan_0 (i := 11) (q := 17) rfl rfl) (Nat.le_of_ble_eq_true rfl) rfl <|
    V_iconst (tat ok_X9_findPlan_0 (i := 12) (q := 18) rfl rfl) ic_0 <|
    V_istore (lv' := [(5, .int 0), (4, .int 0), (3, .int 0), (0, .ref 33), (1, .long a1)]) (tat ok_X9_findPlan_0 (i := 13) (q := 20) rfl rfl) (Nat.le_of_ble_eq_true rfl) rfl <|
    V_pick [3, 4, 2, 1, 0] rfl (V_X9_findPlan_20 rfl rfl rfl hr (jx (P := P) kk (if_pos c1)))) (fun c1 => V_iconst (tat ok_X9_findPlan_0 (i := 6) (q := 11) rfl rfl) ic_0 <|
    V_iret (tat ok_X9_findPlan_0 (i := 7) (q := 12) rfl rfl) _ rfl rfl (hr (0, I) (jx (P := P) kk (if_neg c1))) ⟨(Nat.le_of_ble_eq_true rfl), (Nat.le_of_ble_eq_true rfl)⟩)
theorem ct_X9_findPlan  (I : WI) (L : WL) (a1 : Int64)  : Ct x_X9_findPlan 4 [.ref 33, .long a1] ly0 I L R0 0 0 (some (.int (p1 (F_X9_findPlan I a1))), ly0, (p2 (F_X9_findPlan I a1)), L, R0) :=
  Ct_of_V mo_X9_findPlan.1 (Nat.le_of_ble_eq_true rfl) (V_X9_findPlan (P := fun x => x = (F_X9_findPlan I a1))  (fun _ e => by rw [e]) rfl)
def F_X9_planTold_62 (I : WI) (a1 : Int32) (s0 : Int32) : Int32 :=
  s0
theorem V_X9_planTold_62  {I : WI} {L : WL} {a1 : Int32} {s0 : Int32} {P : Int32 → Prop} {t : Tg} (hr : ∀ v, P v → t = (some (.int v), ly0, I, L, R0)) (kk : P (F_X9_planTold_62 I a1 s0)) : V (zM x_X9_planTold 2 0 0 t) 62 [(0, .ref 33), (1, .int a1)] [.int s0] ly0 I L R0 0 0 :=
  V_iret (tat ok_X9_planTold_0 (i := 34) (q := 63) rfl rfl) _ rfl (nar_int _) (hr s0 (jx (P := P) kk rfl)) ⟨(Nat.le_of_ble_eq_true rfl), (Nat.le_of_ble_eq_true rfl)⟩
def F_X9_planTold (I : WI) (a1 : Int32) : Int32 :=
  (if a1 = 0 then (F_X9_planTold_62 I a1 ((F_X9_many (Int32.toInt64 (I 33 31))) + (F_X9_many (Int32.toInt64 (I 33 32))))) else (if a1 = 1 then (F_X9_planTold_62 I a1 (I 33 31)) else (if a1 = 2 then (F_X9_planTold_62 I a1 (I 33 32)) else (if (F_X9_many (Int32.toInt64 (I 33 31))) ≤ (F_X9_many (Int32.toInt64 (I 33 32))) then (F_X9_planTold_62 I a1 (F_X9_many (Int32.toInt64 (I 33 32)))) else (F_X9_planTold_62 I a1 (F_X9_many (Int32.toInt64 (I 33 31))))))))
theorem V_X9_planTold  {I : WI} {L : WL} {a1 : Int32}  {P : Int32 → Prop} {t : Tg} (hr : ∀ v, P v → t = (some (.int v), ly0, I, L, R0)) (kk : P (F_X9_planTold I a1)) : V (zM x_X9_planTold 2 0 0 t) 0 [(0, .ref 33), (1, .int a1)] [] ly0 I L R0 0 0 :=
  V_aload_n (tat ok_X9_planTold_0 (i := 0) (q := 1) rfl rfl) 0 rfl rfl <|
    V_getI (tat ok_X9_planTold_0 (i := 1) (q := 4) rfl rfl) fk_X9_245 rfl <|
    V_i2l (tat ok_X9_planTold_0 (i := 2) (q := 5) rfl rfl) <|
    V_cs1 (ct_X9_many I L (Int32.toInt64 (I 33 31)) ) mo_X9_many (tat ok_X9_planTold_0 (i := 3) (q := 8) rfl rfl) ml_X9_220 ⟨(Nat.le_of_ble_eq_true rfl), (Nat.le_of_ble_eq_true rfl)⟩ ⟨(Nat.le_of_ble_eq_true rfl), (Nat.le_of_ble_eq_true rfl)⟩ (Nat.le_of_ble_eq_true rfl) <|
    V_istore_n (lv' := [(2, .int (F_X9_many (Int32.toInt64 (I 33 31)))), (0, .ref 33), (1, .int a1)]) (tat ok_X9_planTold_0 (i := 4) (q := 9) rfl rfl) rfl (Nat.le_of_ble_eq_true rfl) rfl <|
    V_aload_n (tat ok_X9_planTold_0 (i := 5) (q := 10) rfl rfl) 1 rfl rfl <|
    V_getI (tat ok_X9_planTold_0 (i := 6) (q := 13) rfl rfl) fk_X9_248 rfl <|
    V_i2l (tat ok_X9_planTold_0 (i := 7) (q := 14) rfl rfl) <|
    V_cs1 (ct_X9_many I L (Int32.toInt64 (I 33 32)) ) mo_X9_many (tat ok_X9_planTold_0 (i := 8) (q := 17) rfl rfl) ml_X9_220 ⟨(Nat.le_of_ble_eq_true rfl), (Nat.le_of_ble_eq_true rfl)⟩ ⟨(Nat.le_of_ble_eq_true rfl), (Nat.le_of_ble_eq_true rfl)⟩ (Nat.le_of_ble_eq_true rfl) <|
    V_istore_n (lv' := [(3, .int (F_X9_many (Int32.toInt64 (I 33 32)))), (2, .int (F_X9_many (Int32.toInt64 (I 33 31)))), (0, .ref 33), (1, .int a1)]) (tat ok_X9_planTold_0 (i := 9) (q := 18) rfl rfl) rfl (Nat.le_of_ble_eq_true rfl) rfl <|
    V_iload_n (tat ok_X9_planTold_0 (i := 10) (q := 19) rfl rfl) 3 rfl rfl <|
    V_if_ne (tat ok_X9_planTold_0 (i := 11) (q := 22) rfl rfl) rfl (fun c1 => V_iload_n (tat ok_X9_planTold_0 (i := 16) (q := 29) rfl rfl) 3 rfl rfl <|
    V_iconst (tat ok_X9_planTold_0 (i := 17) (q := 30) rfl rfl) ic_1 <|
    V_icmp_ne (tat ok_X9_planTold_0 (i := 18) (q := 33) rfl rfl) rfl (fun c2 => V_iload_n (tat ok_X9_planTold_0 (i := 22) (q := 41) rfl rfl) 3 rfl rfl <|
    V_iconst (tat ok_X9_planTold_0 (i := 23) (q := 42) rfl rfl) ic_2 <|
    V_icmp_ne (tat ok_X9_planTold_0 (i := 24) (q := 45) rfl rfl) rfl (fun c3 => V_iload_n (tat ok_X9_planTold_0 (i := 28) (q := 53) rfl rfl) 1 rfl rfl <|
    V_iload_n (tat ok_X9_planTold_0 (i := 29) (q := 54) rfl rfl) 0 rfl rfl <|
    V_icmp_le (tat ok_X9_planTold_0 (i := 30) (q := 57) rfl rfl) rfl (fun c4 => V_iload_n (tat ok_X9_planTold_0 (i := 33) (q := 62) rfl rfl) 0 rfl rfl <|
    V_pick [2, 3] rfl (V_X9_planTold_62  hr (jx (P := P) kk (Eq.trans (if_neg c1) (Eq.trans (if_neg c2) (Eq.trans (if_neg c3) (if_pos c4))))))) (fun c4 => V_iload_n (tat ok_X9_planTold_0 (i := 31) (q := 58) rfl rfl) 1 rfl rfl <|
    V_goto (tat ok_X9_planTold_0 (i := 32) (q := 61) rfl rfl) rfl <|
    V_pick [2, 3] rfl (V_X9_planTold_62  hr (jx (P := P) kk (Eq.trans (if_neg c1) (Eq.trans (if_neg c2) (Eq.trans (if_neg c3) (if_neg c4)))))))) (fun c3 => V_aload_n (tat ok_X9_planTold_0 (i := 25) (q := 46) rfl rfl) 2 rfl rfl <|
    V_getI (tat ok_X9_planTold_0 (i := 26) (q := 49) rfl rfl) fk_X9_248 rfl <|
    V_goto (tat ok_X9_planTold_0 (i := 27) (q := 52) rfl rfl) rfl <|
    V_pick [2, 3] rfl (V_X9_planTold_62  hr (jx (P := P) kk (Eq.trans (if_neg c1) (Eq.trans (if_neg c2) (if_pos c3))))))) (fun c2 => V_aload_n (tat ok_X9_planTold_0 (i := 19) (q := 34) rfl rfl) 2 rfl rfl <|
    V_getI (tat ok_X9_planTold_0 (i := 20) (q := 37) rfl rfl) fk_X9_245 rfl <|
    V_goto (tat ok_X9_planTold_0 (i := 21) (q := 40) rfl rfl) rfl <|
    V_pick [2, 3] rfl (V_X9_planTold_62  hr (jx (P := P) kk (Eq.trans (if_neg c1) (if_pos c2)))))) (fun c1 => V_iload_n (tat ok_X9_planTold_0 (i := 12) (q := 23) rfl rfl) 1 rfl rfl <|
    V_iload_n (tat ok_X9_planTold_0 (i := 13) (q := 24) rfl rfl) 0 rfl rfl <|
    V_iadd (tat ok_X9_planTold_0 (i := 14) (q := 25) rfl rfl) <|
    V_goto (tat ok_X9_planTold_0 (i := 15) (q := 28) rfl rfl) rfl <|
    V_pick [2, 3] rfl (V_X9_planTold_62  hr (jx (P := P) kk (if_pos c1))))
theorem ct_X9_planTold  (I : WI) (L : WL) (a1 : Int32)  : Ct x_X9_planTold 2 [.ref 33, .int a1] ly0 I L R0 0 0 (some (.int (F_X9_planTold I a1)), ly0, I, L, R0) :=
  Ct_of_V mo_X9_planTold.1 (Nat.le_of_ble_eq_true rfl) (V_X9_planTold (P := fun x => x = (F_X9_planTold I a1))  (fun _ e => by rw [e]) rfl)
def F_X9_plan_50 (I : WI) (L : WL) (a1 : Int32) (s0 : Int32) : (Int32 × WI) :=
  (s0, I)
theorem V_X9_plan_50  {I : WI} {L : WL} {a1 : Int32} {s0 : Int32} {P : (Int32 × WI) → Prop} {t : Tg} (hr : ∀ v, P v → t = (some (.int (p1 v)), ly0, (p2 v), L, R0)) (kk : P (F_X9_plan_50 I L a1 s0)) : V (zM x_X9_plan 5 0 0 t) 50 [(0, .ref 33), (1, .int a1)] [.int s0] ly0 I L R0 0 0 :=
  V_iret (tat ok_X9_plan_0 (i := 26) (q := 51) rfl rfl) _ rfl (nar_int _) (hr (s0, I) (jx (P := P) kk rfl)) ⟨(Nat.le_of_ble_eq_true rfl), (Nat.le_of_ble_eq_true rfl)⟩
def F_X9_plan (I : WI) (L : WL) (a1 : Int32) : (Int32 × WI) :=
  (if (F_X9_in (Int32.toInt64 a1) 0 3) = 0 then ((-1), I) else (if (bz (I 33 4)) = 0 then ((-2), I) else (if (p1 (F_X9_findPlan I ((L 33 2) ^^^ (L 33 3)))) = 0 then (F_X9_plan_50 (p2 (F_X9_findPlan I ((L 33 2) ^^^ (L 33 3)))) L a1 (-4)) else (F_X9_plan_50 (p2 (F_X9_findPlan I ((L 33 2) ^^^ (L 33 3)))) L a1 (F_X9_planTold (p2 (F_X9_findPlan I ((L 33 2) ^^^ (L 33 3)))) a1)))))
theorem V_X9_plan  {I : WI} {L : WL} {a1 : Int32}  {P : (Int32 × WI) → Prop} {t : Tg} (hr : ∀ v, P v → t = (some (.int (p1 v)), ly0, (p2 v), L, R0)) (kk : P (F_X9_plan I L a1)) : V (zM x_X9_plan 5 0 0 t) 0 [(0, .ref 33), (1, .int a1)] [] ly0 I L R0 0 0 :=
  V_iload_n (tat ok_X9_plan_0 (i := 0) (q := 1) rfl rfl) 1 rfl rfl <|
    V_i2l (tat ok_X9_plan_0 (i := 1) (q := 2) rfl rfl) <|
    V_lconst (v := 0) (tat ok_X9_plan_0 (i := 2) (q := 3) rfl rfl) rfl <|
    V_ldc2 (tat ok_X9_plan_0 (i := 3) (q := 6) rfl rfl) (gw_in kl_X9_251 rfl) <|
    V_cs3 (ct_X9_in I L (Int32.toInt64 a1) 0 3 ) mo_X9_in (tat ok_X9_plan_0 (i := 4) (q := 9) rfl rfl) ml_X9_97 ⟨(Nat.le_of_ble_eq_true rfl), (Nat.le_of_ble_eq_true rfl)⟩ ⟨(Nat.le_of_ble_eq_true rfl), (Nat.le_of_ble_eq_true rfl)⟩ (Nat.le_of_ble_eq_true rfl) <|
    V_if_ne (tat ok_X9_plan_0 (i := 5) (q := 12) rfl rfl) rfl (fun c1 => V_aload_n (tat ok_X9_plan_0 (i := 8) (q := 15) rfl rfl) 0 rfl rfl <|
    V_getZ (tat ok_X9_plan_0 (i := 9) (q := 18) rfl rfl) fk_X9_86 rfl <|
    V_if_ne (tat ok_X9_plan_0 (i := 10) (q := 21) rfl rfl) rfl (fun c2 => V_aload_n (tat ok_X9_plan_0 (i := 13) (q := 25) rfl rfl) 0 rfl rfl <|
    V_aload_n (tat ok_X9_plan_0 (i := 14) (q := 26) rfl rfl) 0 rfl rfl <|
    V_getL (tat ok_X9_plan_0 (i := 15) (q := 29) rfl rfl) fk_X9_80 rfl <|
    V_aload_n (tat ok_X9_plan_0 (i := 16) (q := 30) rfl rfl) 0 rfl rfl <|
    V_getL (tat ok_X9_plan_0 (i := 17) (q := 33) rfl rfl) fk_X9_83 rfl <|
    V_lxor (tat ok_X9_plan_0 (i := 18) (q := 34) rfl rfl) <|
    V_cv1 (ct_X9_findPlan I L ((L 33 2) ^^^ (L 33 3)) ) mo_X9_findPlan (tat ok_X9_plan_0 (i := 19) (q := 37) rfl rfl) ml_X9_253 rfl ⟨by decide, _, rfl, rfl⟩ ⟨(Nat.le_of_ble_eq_true rfl), (Nat.le_of_ble_eq_true rfl)⟩ ⟨(Nat.le_of_ble_eq_true rfl), (Nat.le_of_ble_eq_true rfl)⟩ (Nat.le_of_ble_eq_true rfl) <|
    V_if_eq (tat ok_X9_plan_0 (i := 20) (q := 40) rfl rfl) rfl (fun c3 => V_bipush (tat ok_X9_plan_0 (i := 25) (q := 50) rfl rfl) bp_m4 <|
    V_X9_plan_50  hr (jx (P := P) kk (Eq.trans (if_neg c1) (Eq.trans (if_neg c2) (if_pos c3))))) (fun c3 => V_aload_n (tat ok_X9_plan_0 (i := 21) (q := 41) rfl rfl) 0 rfl rfl <|
    V_iload_n (tat ok_X9_plan_0 (i := 22) (q := 42) rfl rfl) 1 rfl rfl <|
    V_cv1 (ct_X9_planTold (p2 (F_X9_findPlan I ((L 33 2) ^^^ (L 33 3)))) L a1 ) mo_X9_planTold (tat ok_X9_plan_0 (i := 23) (q := 45) rfl rfl) ml_X9_257 rfl ⟨by decide, _, rfl, rfl⟩ ⟨(Nat.le_of_ble_eq_true rfl), (Nat.le_of_ble_eq_true rfl)⟩ ⟨(Nat.le_of_ble_eq_true rfl), (Nat.le_of_ble_eq_true rfl)⟩ (Nat.le_of_ble_eq_true rfl) <|
    V_goto (tat ok_X9_plan_0 (i := 24) (q := 48) rfl rfl) rfl <|
    V_X9_plan_50  hr (jx (P := P) kk (Eq.trans (if_neg c1) (Eq.trans (if_neg c2) (if_neg c3)))))) (fun c2 => V_bipush (tat ok_X9_plan_0 (i := 11) (q := 23) rfl rfl) bp_m2 <|
    V_iret (tat ok_X9_plan_0 (i := 12) (q := 24) rfl rfl) _ rfl (nar_int _) (hr ((-2), I) (jx (P := P) kk (Eq.trans (if_neg c1) (if_pos c2)))) ⟨(Nat.le_of_ble_eq_true rfl), (Nat.le_of_ble_eq_true rfl)⟩)) (fun c1 => V_iconst (tat ok_X9_plan_0 (i := 6) (q := 13) rfl rfl) ic_m1 <|
    V_iret (tat ok_X9_plan_0 (i := 7) (q := 14) rfl rfl) _ rfl (nar_int _) (hr ((-1), I) (jx (P := P) kk (if_pos c1))) ⟨(Nat.le_of_ble_eq_true rfl), (Nat.le_of_ble_eq_true rfl)⟩)
theorem ct_X9_plan  (I : WI) (L : WL) (a1 : Int32)  : Ct x_X9_plan 5 [.ref 33, .int a1] ly0 I L R0 0 0 (some (.int (p1 (F_X9_plan I L a1))), ly0, (p2 (F_X9_plan I L a1)), L, R0) :=
  Ct_of_V mo_X9_plan.1 (Nat.le_of_ble_eq_true rfl) (V_X9_plan (P := fun x => x = (F_X9_plan I L a1))  (fun _ e => by rw [e]) rfl)
def F_X9_findNearest_110_2 (I : WI) (a1 : Int64) (a3 : Int32) (a4 : Int64) (a8 : Int32) (a7 : Int32) (s0 : Int32) (s1 : Int32) : Option (Int32 × Int32) :=
  some ((s1 + s0), a7)
theorem V_X9_findNearest_110_2  {I : WI} {L : WL} {a1 : Int64} {a3 : Int32} {a4 : Int64} {a8 : Int32} {a7 : Int32} {s0 : Int32} {s1 : Int32} {P : (Int32 × Int32) → Prop} {t : Tg} (hk : ∀ x : (Int32 × Int32), P x → V (zM x_X9_findNearest 3 0 0 t) 37 [(0, .ref 33), (1, .long a1), (3, .int a3), (4, .long a4), (6, .int (p1 x)), (7, .int (p2 x)), (8, .int (a8 + 1))] [] ly0 I L R0 0 0) : oP P (F_X9_findNearest_110_2 I a1 a3 a4 a8 a7 s0 s1) → V (zM x_X9_findNearest 3 0 0 t) 110 [(0, .ref 33), (1, .long a1), (3, .int a3), (4, .long a4), (7, .int a7), (8, .int a8)] [.int s0, .int s1] ly0 I L R0 0 0 :=
  fun _ =>
  have kq : (oP P (F_X9_findNearest_110_2 I a1 a3 a4 a8 a7 s0 s1)) ∧ True := ⟨by assumption, trivial⟩
  V_iadd (tat ok_X9_findNearest_1 (i := 23) (q := 111) rfl rfl) <|
    V_istore (lv' := [(6, .int (s1 + s0)), (0, .ref 33), (1, .long a1), (3, .int a3), (4, .long a4), (7, .int a7), (8, .int a8)]) (tat ok_X9_findNearest_1 (i := 24) (q := 113) rfl rfl) (Nat.le_of_ble_eq_true rfl) rfl <|
    V_iinc (v := (a8 + 1)) (lv' := [(8, .int (a8 + 1)), (6, .int (s1 + s0)), (0, .ref 33), (1, .long a1), (3, .int a3), (4, .long a4), (7, .int a7)]) (tat ok_X9_findNearest_1 (i := 25) (q := 116) rfl rfl) 6 rfl (ia ic_1) (Nat.le_of_ble_eq_true rfl) rfl <|
    V_goto (tat ok_X9_findNearest_1 (i := 26) (q := 119) rfl rfl) rfl <|
    V_pick [2, 3, 4, 5, 1, 6, 0] rfl (hk ((s1 + s0), a7) (jq (P := oP P) kq rfl))
def F_X9_findNearest_82_2 (I : WI) (a1 : Int64) (a3 : Int32) (a4 : Int64) (a8 : Int32) (a6 : Int32) (a9 : Int32) (s0 : Int32) (s1 : Int32) : Option (Int32 × Int32) :=
  (if (2 * a9) ≤ (I 33 0) then (F_X9_findNearest_110_2 I a1 a3 a4 a8 (s1 ||| s0) a9 a6) else (F_X9_findNearest_110_2 I a1 a3 a4 a8 (s1 ||| s0) ((I 33 0) - a9) a6))
theorem V_X9_findNearest_82_2  {I : WI} {L : WL} {a1 : Int64} {a3 : Int32} {a4 : Int64} {a8 : Int32} {a6 : Int32} {a9 : Int32} {s0 : Int32} {s1 : Int32} {P : (Int32 × Int32) → Prop} {t : Tg} (hk : ∀ x : (Int32 × Int32), P x → V (zM x_X9_findNearest 3 0 0 t) 37 [(0, .ref 33), (1, .long a1), (3, .int a3), (4, .long a4), (6, .int (p1 x)), (7, .int (p2 x)), (8, .int (a8 + 1))] [] ly0 I L R0 0 0) : oP P (F_X9_findNearest_82_2 I a1 a3 a4 a8 a6 a9 s0 s1) → V (zM x_X9_findNearest 3 0 0 t) 82 [(0, .ref 33), (1, .long a1), (3, .int a3), (4, .long a4), (6, .int a6), (8, .int a8), (9, .int a9)] [.int s0, .int s1] ly0 I L R0 0 0 :=
  fun _ =>
  have kq : (oP P (F_X9_findNearest_82_2 I a1 a3 a4 a8 a6 a9 s0 s1)) ∧ True := ⟨by assumption, trivial⟩
  V_ior (tat ok_X9_findNearest_1 (i := 8) (q := 83) rfl rfl) <|
    V_istore (lv' := [(7, .int (s1 ||| s0)), (0, .ref 33), (1, .long a1), (3, .int a3), (4, .long a4), (6, .int a6), (8, .int a8), (9, .int a9)]) (tat ok_X9_findNearest_1 (i := 9) (q := 85) rfl rfl) (Nat.le_of_ble_eq_true rfl) rfl <|
    V_iload (tat ok_X9_findNearest_1 (i := 10) (q := 87) rfl rfl) 5 rfl <|
    V_iconst (tat ok_X9_findNearest_1 (i := 11) (q := 88) rfl rfl) ic_2 <|
    V_iload (tat ok_X9_findNearest_1 (i := 12) (q := 90) rfl rfl) 7 rfl <|
    V_imul (tat ok_X9_findNearest_1 (i := 13) (q := 91) rfl rfl) <|
    V_aload_n (tat ok_X9_findNearest_1 (i := 14) (q := 92) rfl rfl) 1 rfl rfl <|
    V_getI (tat ok_X9_findNearest_1 (i := 15) (q := 95) rfl rfl) fk_X9_74 rfl <|
    V_icmp_le (tat ok_X9_findNearest_1 (i := 16) (q := 98) rfl rfl) rfl (fun c3 => V_iload (tat ok_X9_findNearest_1 (i := 22) (q := 110) rfl rfl) 7 rfl <|
    V_pick [1, 2, 3, 4, 0, 6] rfl (V_X9_findNearest_110_2  hk (jq (P := oP P) kq (if_pos c3)))) (fun c3 => V_aload_n (tat ok_X9_findNearest_1 (i := 17) (q := 99) rfl rfl) 1 rfl rfl <|
    V_getI (tat ok_X9_findNearest_1 (i := 18) (q := 102) rfl rfl) fk_X9_74 rfl <|
    V_iload (tat ok_X9_findNearest_1 (i := 19) (q := 104) rfl rfl) 7 rfl <|
    V_isub (tat ok_X9_findNearest_1 (i := 20) (q := 105) rfl rfl) <|
    V_goto (tat ok_X9_findNearest_1 (i := 21) (q := 108) rfl rfl) rfl <|
    V_pick [1, 2, 3, 4, 0, 6] rfl (V_X9_findNearest_110_2  hk (jq (P := oP P) kq (if_neg c3))))
def F_X9_findNearest_46_2 (I : WI) (a1 : Int64) (a3 : Int32) (a4 : Int64) (a8 : Int32) (a6 : Int32) (a7 : Int32) : Option (Int32 × Int32) :=
  (if (2 * (F_X9_many (a4 &&& (F_X9_actSet I 1 a8)))) ≤ (I 33 0) then (F_X9_findNearest_82_2 I a1 a3 a4 a8 a6 (F_X9_many (a4 &&& (F_X9_actSet I 1 a8))) 0 a7) else (F_X9_findNearest_82_2 I a1 a3 a4 a8 a6 (F_X9_many (a4 &&& (F_X9_actSet I 1 a8))) (1 <<< (a8 &&& 31)) a7))
theorem V_X9_findNearest_46_2  {I : WI} {L : WL} {a1 : Int64} {a3 : Int32} {a4 : Int64} {a8 : Int32} {a6 : Int32} {a7 : Int32} {P : (Int32 × Int32) → Prop} {t : Tg} (hk : ∀ x : (Int32 × Int32), P x → V (zM x_X9_findNearest 3 0 0 t) 37 [(0, .ref 33), (1, .long a1), (3, .int a3), (4, .long a4), (6, .int (p1 x)), (7, .int (p2 x)), (8, .int (a8 + 1))] [] ly0 I L R0 0 0) : oP P (F_X9_findNearest_46_2 I a1 a3 a4 a8 a6 a7) → V (zM x_X9_findNearest 3 0 0 t) 46 [(0, .ref 33), (1, .long a1), (3, .int a3), (4, .long a4), (6, .int a6), (7, .int a7), (8, .int a8)] [] ly0 I L R0 0 0 :=
  fun _ =>
  have kq : (oP P (F_X9_findNearest_46_2 I a1 a3 a4 a8 a6 a7)) ∧ True := ⟨by assumption, trivial⟩
  V_lload (tat ok_X9_findNearest_0 (i := 28) (q := 48) rfl rfl) 3 rfl <|
    V_aload_n (tat ok_X9_findNearest_0 (i := 29) (q := 49) rfl rfl) 0 rfl rfl <|
    V_iconst (tat ok_X9_findNearest_0 (i := 30) (q := 50) rfl rfl) ic_1 <|
    V_iload (tat ok_X9_findNearest_0 (i := 31) (q := 52) rfl rfl) 6 rfl <|
    V_cv2 (ct_X9_actSet I L 1 a8 ) mo_X9_actSet (tat ok_X9_findNearest_0 (i := 32) (q := 55) rfl rfl) ml_X9_217 rfl ⟨by decide, _, rfl, rfl⟩ ⟨(Nat.le_of_ble_eq_true rfl), (Nat.le_of_ble_eq_true rfl)⟩ ⟨(Nat.le_of_ble_eq_true rfl), (Nat.le_of_ble_eq_true rfl)⟩ (Nat.le_of_ble_eq_true rfl) <|
    V_land (tat ok_X9_findNearest_0 (i := 33) (q := 56) rfl rfl) <|
    V_cs1 (ct_X9_many I L (a4 &&& (F_X9_actSet I 1 a8)) ) mo_X9_many (tat ok_X9_findNearest_0 (i := 34) (q := 59) rfl rfl) ml_X9_220 ⟨(Nat.le_of_ble_eq_true rfl), (Nat.le_of_ble_eq_true rfl)⟩ ⟨(Nat.le_of_ble_eq_true rfl), (Nat.le_of_ble_eq_true rfl)⟩ (Nat.le_of_ble_eq_true rfl) <|
    V_istore (lv' := [(9, .int (F_X9_many (a4 &&& (F_X9_actSet I 1 a8)))), (0, .ref 33), (1, .long a1), (3, .int a3), (4, .long a4), (6, .int a6), (7, .int a7), (8, .int a8)]) (tat ok_X9_findNearest_0 (i := 35) (q := 61) rfl rfl) (Nat.le_of_ble_eq_true rfl) rfl <|
    V_iload (tat ok_X9_findNearest_0 (i := 36) (q := 63) rfl rfl) 6 rfl <|
    V_iconst (tat ok_X9_findNearest_0 (i := 37) (q := 64) rfl rfl) ic_2 <|
    V_iload (tat ok_X9_findNearest_0 (i := 38) (q := 66) rfl rfl) 0 rfl <|
    V_imul (tat ok_X9_findNearest_0 (i := 39) (q := 67) rfl rfl) <|
    V_aload_n (tat ok_X9_findNearest_1 (i := 0) (q := 68) rfl rfl) 1 rfl rfl <|
    V_getI (tat ok_X9_findNearest_1 (i := 1) (q := 71) rfl rfl) fk_X9_74 rfl <|
    V_icmp_le (tat ok_X9_findNearest_1 (i := 2) (q := 74) rfl rfl) rfl (fun c2 => V_iconst (tat ok_X9_findNearest_1 (i := 7) (q := 82) rfl rfl) ic_0 <|
    V_pick [1, 2, 3, 4, 5, 7, 0] rfl (V_X9_findNearest_82_2  hk (jq (P := oP P) kq (if_pos c2)))) (fun c2 => V_iconst (tat ok_X9_findNearest_1 (i := 3) (q := 75) rfl rfl) ic_1 <|
    V_iload (tat ok_X9_findNearest_1 (i := 4) (q := 77) rfl rfl) 7 rfl <|
    V_ishl (tat ok_X9_findNearest_1 (i := 5) (q := 78) rfl rfl) <|
    V_goto (tat ok_X9_findNearest_1 (i := 6) (q := 81) rfl rfl) rfl <|
    V_pick [1, 2, 3, 4, 5, 7, 0] rfl (V_X9_findNearest_82_2  hk (jq (P := oP P) kq (if_neg c2))))
def F_X9_findNearest_145_1 (I : WI) (a1 : Int64) (a3 : Int32) : Option (WI ⊕ (Int32 × WI)) :=
  some (.inr ((a3 + 1), I))
theorem V_X9_findNearest_145_1  {I : WI} {L : WL} {a1 : Int64} {a3 : Int32} {P : (WI ⊕ (Int32 × WI)) → Prop} {t : Tg} (he : ∀ x : WI, P (.inl x) → V (zM x_X9_findNearest 3 0 0 t) 151 [(0, .ref 33), (1, .long a1)] [] ly0 x L R0 0 0) (hk : ∀ x : (Int32 × WI), P (.inr x) → V (zM x_X9_findNearest 3 0 0 t) 8 [(0, .ref 33), (1, .long a1), (3, .int (p1 x))] [] ly0 (p2 x) L R0 0 0) : oP P (F_X9_findNearest_145_1 I a1 a3) → V (zM x_X9_findNearest 3 0 0 t) 145 [(0, .ref 33), (1, .long a1), (3, .int a3)] [] ly0 I L R0 0 0 :=
  fun _ =>
  have kq : (oP P (F_X9_findNearest_145_1 I a1 a3)) ∧ True := ⟨by assumption, trivial⟩
  V_iinc (v := (a3 + 1)) (lv' := [(3, .int (a3 + 1)), (0, .ref 33), (1, .long a1)]) (tat ok_X9_findNearest_2 (i := 0) (q := 148) rfl rfl) 2 rfl (ia ic_1) (Nat.le_of_ble_eq_true rfl) rfl <|
    V_goto (tat ok_X9_findNearest_2 (i := 1) (q := 151) rfl rfl) rfl <|
    V_pick [1, 2, 0] rfl (hk ((a3 + 1), I) (jq (P := oP P) kq rfl))
def F_X9_findNearest_119_1 (I : WI) (a1 : Int64) (a3 : Int32) (a6 : Int32) (a7 : Int32) : Option (WI ⊕ (Int32 × WI)) :=
  (if (I 33 33) ≤ a6 then (F_X9_findNearest_145_1 I a1 a3) else (F_X9_findNearest_145_1 (u2 (u2 (u2 I 33 33 a6) 33 34 a3) 33 35 a7) a1 a3))
theorem V_X9_findNearest_119_1  {I : WI} {L : WL} {a1 : Int64} {a3 : Int32} {a6 : Int32} {a7 : Int32} {P : (WI ⊕ (Int32 × WI)) → Prop} {t : Tg} (he : ∀ x : WI, P (.inl x) → V (zM x_X9_findNearest 3 0 0 t) 151 [(0, .ref 33), (1, .long a1)] [] ly0 x L R0 0 0) (hk : ∀ x : (Int32 × WI), P (.inr x) → V (zM x_X9_findNearest 3 0 0 t) 8 [(0, .ref 33), (1, .long a1), (3, .int (p1 x))] [] ly0 (p2 x) L R0 0 0) : oP P (F_X9_findNearest_119_1 I a1 a3 a6 a7) → V (zM x_X9_findNearest 3 0 0 t) 119 [(0, .ref 33), (1, .long a1), (3, .int a3), (6, .int a6), (7, .int a7)] [] ly0 I L R0 0 0 :=
  fun _ =>
  have kq : (oP P (F_X9_findNearest_119_1 I a1 a3 a6 a7)) ∧ True := ⟨by assumption, trivial⟩
  V_iload (tat ok_X9_findNearest_1 (i := 27) (q := 121) rfl rfl) 3 rfl <|
    V_aload_n (tat ok_X9_findNearest_1 (i := 28) (q := 122) rfl rfl) 0 rfl rfl <|
    V_getI (tat ok_X9_findNearest_1 (i := 29) (q := 125) rfl rfl) fk_X9_260 rfl <|
    V_icmp_ge (tat ok_X9_findNearest_1 (i := 30) (q := 128) rfl rfl) rfl (fun c4 => V_pick [0, 1, 2] rfl (V_X9_findNearest_145_1  he hk (jq (P := oP P) kq (if_pos c4)))) (fun c4 => V_aload_n (tat ok_X9_findNearest_1 (i := 31) (q := 129) rfl rfl) 0 rfl rfl <|
    V_iload (tat ok_X9_findNearest_1 (i := 32) (q := 131) rfl rfl) 3 rfl <|
    V_putI (tat ok_X9_findNearest_1 (i := 33) (q := 134) rfl rfl) fk_X9_260 rfl rfl <|
    V_aload_n (tat ok_X9_findNearest_1 (i := 34) (q := 135) rfl rfl) 0 rfl rfl <|
    V_iload_n (tat ok_X9_findNearest_1 (i := 35) (q := 136) rfl rfl) 2 rfl rfl <|
    V_putI (tat ok_X9_findNearest_1 (i := 36) (q := 139) rfl rfl) fk_X9_263 rfl rfl <|
    V_aload_n (tat ok_X9_findNearest_1 (i := 37) (q := 140) rfl rfl) 0 rfl rfl <|
    V_iload (tat ok_X9_findNearest_1 (i := 38) (q := 142) rfl rfl) 4 rfl <|
    V_putI (tat ok_X9_findNearest_1 (i := 39) (q := 145) rfl rfl) fk_X9_266 rfl rfl <|
    V_pick [0, 1, 2] rfl (V_X9_findNearest_145_1  he hk (jq (P := oP P) kq (if_neg c4))))
def F_X9_findNearest_37_1 (I : WI) (a1 : Int64) (a3 : Int32) (a4 : Int64) (a6 : Int32) (a7 : Int32) (a8 : Int32) : Option (WI ⊕ (Int32 × WI)) :=
  (frp0 (fun i x => (F_X9_findNearest_46_2 I a1 a3 a4 i (p1 x) (p2 x))) (I 33 1) (fu a8 (I 33 1)) a8 (a6, a7)).bind (fun q => (F_X9_findNearest_119_1 I a1 a3 (p1 (p2 q)) (p2 (p2 q))))
theorem V_X9_findNearest_37_1  {I : WI} {L : WL} {a1 : Int64} {a3 : Int32} {a4 : Int64} {a6 : Int32} {a7 : Int32} {a8 : Int32} {P : (WI ⊕ (Int32 × WI)) → Prop} {t : Tg} (hb6 : bz a6 = a6) (hb7 : bz a7 = a7) (hb8 : bz a8 = a8) (he : ∀ x : WI, P (.inl x) → V (zM x_X9_findNearest 3 0 0 t) 151 [(0, .ref 33), (1, .long a1)] [] ly0 x L R0 0 0) (hk : ∀ x : (Int32 × WI), P (.inr x) → V (zM x_X9_findNearest 3 0 0 t) 8 [(0, .ref 33), (1, .long a1), (3, .int (p1 x))] [] ly0 (p2 x) L R0 0 0) (kk : oP P (F_X9_findNearest_37_1 I a1 a3 a4 a6 a7 a8)) : V (zM x_X9_findNearest 3 0 0 t) 37 [(0, .ref 33), (1, .long a1), (3, .int a3), (4, .long a4), (6, .int a6), (7, .int a7), (8, .int a8)] [] ly0 I L R0 0 0 :=
  V_frp0 (fun i x => (F_X9_findNearest_46_2 I a1 a3 a4 i (p1 x) (p2 x))) (I 33 1) (fun i x => V (zM x_X9_findNearest 3 0 0 t) 37 [(0, .ref 33), (1, .long a1), (3, .int a3), (4, .long a4), (6, .int (p1 x)), (7, .int (p2 x)), (8, .int i)] [] ly0 I L R0 0 0) (fun i x => oP P ((F_X9_findNearest_119_1 I a1 a3 (p1 x) (p2 x)))) (c := a8) (s := (a6, a7)) (fun i x kx kb => V_iload (tat ok_X9_findNearest_0 (i := 24) (q := 39) rfl rfl) 6 rfl <|
    V_aload_n (tat ok_X9_findNearest_0 (i := 25) (q := 40) rfl rfl) 0 rfl rfl <|
    V_getI (tat ok_X9_findNearest_0 (i := 26) (q := 43) rfl rfl) fk_X9_77 rfl <|
    V_icmp_ge (tat ok_X9_findNearest_0 (i := 27) (q := 46) rfl rfl) rfl (fun c0 => V_pick [0, 1, 2, 4, 5] rfl (V_X9_findNearest_119_1  he hk (kx c0))) (fun c0 => V_X9_findNearest_46_2 (P := (fun x => (fun i x => V (zM x_X9_findNearest 3 0 0 t) 37 [(0, .ref 33), (1, .long a1), (3, .int a3), (4, .long a4), (6, .int (p1 x)), (7, .int (p2 x)), (8, .int i)] [] ly0 I L R0 0 0) (i + 1) x))  (fun _ e => e) (kb c0))) (oP_bind (f := fun q => _) kk)
def F_X9_findNearest_8_1 (I : WI) (a1 : Int64) (a3 : Int32) : Option (WI ⊕ (Int32 × WI)) :=
  (if (1 <<< ((I 33 0) &&& 31)) ≤ a3 then some (.inl I) else (F_X9_findNearest_37_1 I a1 a3 (a1 ^^^ (F_X9_turnSet I a3 0)) 0 0 0))
theorem V_X9_findNearest_8_1  {I : WI} {L : WL} {a1 : Int64} {a3 : Int32} {P : (WI ⊕ (Int32 × WI)) → Prop} {t : Tg} (he : ∀ x : WI, P (.inl x) → V (zM x_X9_findNearest 3 0 0 t) 151 [(0, .ref 33), (1, .long a1)] [] ly0 x L R0 0 0) (hk : ∀ x : (Int32 × WI), P (.inr x) → V (zM x_X9_findNearest 3 0 0 t) 8 [(0, .ref 33), (1, .long a1), (3, .int (p1 x))] [] ly0 (p2 x) L R0 0 0) : oP P (F_X9_findNearest_8_1 I a1 a3) → V (zM x_X9_findNearest 3 0 0 t) 8 [(0, .ref 33), (1, .long a1), (3, .int a3)] [] ly0 I L R0 0 0 :=
  fun _ =>
  have kq : (oP P (F_X9_findNearest_8_1 I a1 a3)) ∧ True := ⟨by assumption, trivial⟩
  V_iload_n (tat ok_X9_findNearest_0 (i := 5) (q := 9) rfl rfl) 2 rfl rfl <|
    V_iconst (tat ok_X9_findNearest_0 (i := 6) (q := 10) rfl rfl) ic_1 <|
    V_aload_n (tat ok_X9_findNearest_0 (i := 7) (q := 11) rfl rfl) 0 rfl rfl <|
    V_getI (tat ok_X9_findNearest_0 (i := 8) (q := 14) rfl rfl) fk_X9_74 rfl <|
    V_ishl (tat ok_X9_findNearest_0 (i := 9) (q := 15) rfl rfl) <|
    V_icmp_ge (tat ok_X9_findNearest_0 (i := 10) (q := 18) rfl rfl) rfl (fun c1 => V_pick [0, 1] rfl (he I (jq (P := oP P) kq (if_pos c1)))) (fun c1 => V_lload_n (tat ok_X9_findNearest_0 (i := 11) (q := 19) rfl rfl) 1 rfl rfl <|
    V_aload_n (tat ok_X9_findNearest_0 (i := 12) (q := 20) rfl rfl) 0 rfl rfl <|
    V_iload_n (tat ok_X9_findNearest_0 (i := 13) (q := 21) rfl rfl) 2 rfl rfl <|
    V_iconst (tat ok_X9_findNearest_0 (i := 14) (q := 22) rfl rfl) ic_0 <|
    V_cv2 (ct_X9_turnSet I L a3 0 ) mo_X9_turnSet (tat ok_X9_findNearest_0 (i := 15) (q := 25) rfl rfl) ml_X9_224 rfl ⟨by decide, _, rfl, rfl⟩ ⟨(Nat.le_of_ble_eq_true rfl), (Nat.le_of_ble_eq_true rfl)⟩ ⟨(Nat.le_of_ble_eq_true rfl), (Nat.le_of_ble_eq_true rfl)⟩ (Nat.le_of_ble_eq_true rfl) <|
    V_lxor (tat ok_X9_findNearest_0 (i := 16) (q := 26) rfl rfl) <|
    V_lstore (lv' := [(4, .long (a1 ^^^ (F_X9_turnSet I a3 0))), (0, .ref 33), (1, .long a1), (3, .int a3)]) (tat ok_X9_findNearest_0 (i := 17) (q := 28) rfl rfl) (Nat.le_of_ble_eq_true rfl) rfl <|
    V_iconst (tat ok_X9_findNearest_0 (i := 18) (q := 29) rfl rfl) ic_0 <|
    V_istore (lv' := [(6, .int 0), (4, .long (a1 ^^^ (F_X9_turnSet I a3 0))), (0, .ref 33), (1, .long a1), (3, .int a3)]) (tat ok_X9_findNearest_0 (i := 19) (q := 31) rfl rfl) (Nat.le_of_ble_eq_true rfl) rfl <|
    V_iconst (tat ok_X9_findNearest_0 (i := 20) (q := 32) rfl rfl) ic_0 <|
    V_istore (lv' := [(7, .int 0), (6, .int 0), (4, .long (a1 ^^^ (F_X9_turnSet I a3 0))), (0, .ref 33), (1, .long a1), (3, .int a3)]) (tat ok_X9_findNearest_0 (i := 21) (q := 34) rfl rfl) (Nat.le_of_ble_eq_true rfl) rfl <|
    V_iconst (tat ok_X9_findNearest_0 (i := 22) (q := 35) rfl rfl) ic_0 <|
    V_istore (lv' := [(8, .int 0), (7, .int 0), (6, .int 0), (4, .long (a1 ^^^ (F_X9_turnSet I a3 0))), (0, .ref 33), (1, .long a1), (3, .int a3)]) (tat ok_X9_findNearest_0 (i := 23) (q := 37) rfl rfl) (Nat.le_of_ble_eq_true rfl) rfl <|
    V_pick [4, 5, 6, 3, 2, 1, 0] rfl (V_X9_findNearest_37_1 rfl rfl rfl he hk (jq (P := oP P) kq (if_neg c1))))
def F_X9_findNearest_151 (I : WI) (a1 : Int64) : Option WI :=
  some I
theorem V_X9_findNearest_151  {I : WI} {L : WL} {a1 : Int64}  {P : WI → Prop} {t : Tg} (hr : ∀ v, P v → t = (none, ly0, v, L, R0)) : oP P (F_X9_findNearest_151 I a1) → V (zM x_X9_findNearest 3 0 0 t) 151 [(0, .ref 33), (1, .long a1)] [] ly0 I L R0 0 0 :=
  fun _ =>
  have kq : (oP P (F_X9_findNearest_151 I a1)) ∧ True := ⟨by assumption, trivial⟩
  V_vret (tat ok_X9_findNearest_2 (i := 2) (q := 152) rfl rfl) rfl (hr I (jq (P := oP P) kq rfl)) ⟨(Nat.le_of_ble_eq_true rfl), (Nat.le_of_ble_eq_true rfl)⟩
def F_X9_findNearest_8 (I : WI) (a1 : Int64) (a3 : Int32) : Option WI :=
  (lpp (fun x => (F_X9_findNearest_8_1 (p2 x) a1 (p1 x))) 4294967296 (a3, I)).bind (fun q => (F_X9_findNearest_151 q a1))
theorem V_X9_findNearest_8  {I : WI} {L : WL} {a1 : Int64} {a3 : Int32} {P : WI → Prop} {t : Tg} (hb3 : bz a3 = a3) (hr : ∀ v, P v → t = (none, ly0, v, L, R0)) (kk : oP P (F_X9_findNearest_8 I a1 a3)) : V (zM x_X9_findNearest 3 0 0 t) 8 [(0, .ref 33), (1, .long a1), (3, .int a3)] [] ly0 I L R0 0 0 :=
  V_lpp (fun x => (F_X9_findNearest_8_1 (p2 x) a1 (p1 x))) (fun x => V (zM x_X9_findNearest 3 0 0 t) 8 [(0, .ref 33), (1, .long a1), (3, .int (p1 x))] [] ly0 (p2 x) L R0 0 0) (fun x => oP P ((F_X9_findNearest_151 x a1))) (s := (a3, I)) (fun x e0 => V_X9_findNearest_8_1 (P := Sum.elim (fun x => oP P ((F_X9_findNearest_151 x a1))) (fun x => V (zM x_X9_findNearest 3 0 0 t) 8 [(0, .ref 33), (1, .long a1), (3, .int (p1 x))] [] ly0 (p2 x) L R0 0 0))  (fun x e => V_X9_findNearest_151  hr e) (fun _ e => e) e0) (oP_bind (f := fun q => _) kk)
def F_X9_findNearest (I : WI) (a1 : Int64) : Option WI :=
  (F_X9_findNearest_8 (u2 I 33 33 65) a1 0)
theorem V_X9_findNearest  {I : WI} {L : WL} {a1 : Int64}  {P : WI → Prop} {t : Tg} (hr : ∀ v, P v → t = (none, ly0, v, L, R0)) : oP P (F_X9_findNearest I a1) → V (zM x_X9_findNearest 3 0 0 t) 0 [(0, .ref 33), (1, .long a1)] [] ly0 I L R0 0 0 :=
  fun _ =>
  have kq : (oP P (F_X9_findNearest I a1)) ∧ True := ⟨by assumption, trivial⟩
  V_aload_n (tat ok_X9_findNearest_0 (i := 0) (q := 1) rfl rfl) 0 rfl rfl <|
    V_bipush (tat ok_X9_findNearest_0 (i := 1) (q := 3) rfl rfl) bp_65 <|
    V_putI (tat ok_X9_findNearest_0 (i := 2) (q := 6) rfl rfl) fk_X9_260 rfl rfl <|
    V_iconst (tat ok_X9_findNearest_0 (i := 3) (q := 7) rfl rfl) ic_0 <|
    V_istore_n (lv' := [(3, .int 0), (0, .ref 33), (1, .long a1)]) (tat ok_X9_findNearest_0 (i := 4) (q := 8) rfl rfl) rfl (Nat.le_of_ble_eq_true rfl) rfl <|
    V_pick [1, 2, 0] rfl (V_X9_findNearest_8 rfl hr (jq (P := oP P) kq rfl))
theorem ct_X9_findNearest  (I : WI) (L : WL) (a1 : Int64)  {v : WI} (h : (F_X9_findNearest I a1) = some v) : Ct x_X9_findNearest 3 [.ref 33, .long a1] ly0 I L R0 0 0 (none, ly0, v, L, R0) :=
  Ct_of_V mo_X9_findNearest.1 (Nat.le_of_ble_eq_true rfl) (V_X9_findNearest (P := fun x => x = v)  (fun _ e => by rw [e]) (by rw [h]; exact rfl))
def F_X9_nearTold_27 (I : WI) (a1 : Int32) (s0 : Int32) : Int32 :=
  s0
theorem V_X9_nearTold_27  {I : WI} {L : WL} {a1 : Int32} {s0 : Int32} {P : Int32 → Prop} {t : Tg} (hr : ∀ v, P v → t = (some (.int v), ly0, I, L, R0)) (kk : P (F_X9_nearTold_27 I a1 s0)) : V (zM x_X9_nearTold 1 0 0 t) 27 [(0, .ref 33), (1, .int a1)] [.int s0] ly0 I L R0 0 0 :=
  V_iret (tat ok_X9_nearTold_0 (i := 13) (q := 28) rfl rfl) _ rfl (nar_int _) (hr s0 (jx (P := P) kk rfl)) ⟨(Nat.le_of_ble_eq_true rfl), (Nat.le_of_ble_eq_true rfl)⟩
def F_X9_nearTold (I : WI) (a1 : Int32) : Int32 :=
  (if a1 = 0 then (F_X9_nearTold_27 I a1 (I 33 33)) else (if a1 = 1 then (F_X9_nearTold_27 I a1 (I 33 34)) else (F_X9_nearTold_27 I a1 (I 33 35))))
theorem V_X9_nearTold  {I : WI} {L : WL} {a1 : Int32}  {P : Int32 → Prop} {t : Tg} (hr : ∀ v, P v → t = (some (.int v), ly0, I, L, R0)) (kk : P (F_X9_nearTold I a1)) : V (zM x_X9_nearTold 1 0 0 t) 0 [(0, .ref 33), (1, .int a1)] [] ly0 I L R0 0 0 :=
  V_iload_n (tat ok_X9_nearTold_0 (i := 0) (q := 1) rfl rfl) 1 rfl rfl <|
    V_if_ne (tat ok_X9_nearTold_0 (i := 1) (q := 4) rfl rfl) rfl (fun c1 => V_iload_n (tat ok_X9_nearTold_0 (i := 5) (q := 12) rfl rfl) 1 rfl rfl <|
    V_iconst (tat ok_X9_nearTold_0 (i := 6) (q := 13) rfl rfl) ic_1 <|
    V_icmp_ne (tat ok_X9_nearTold_0 (i := 7) (q := 16) rfl rfl) rfl (fun c2 => V_aload_n (tat ok_X9_nearTold_0 (i := 11) (q := 24) rfl rfl) 0 rfl rfl <|
    V_getI (tat ok_X9_nearTold_0 (i := 12) (q := 27) rfl rfl) fk_X9_266 rfl <|
    V_X9_nearTold_27  hr (jx (P := P) kk (Eq.trans (if_neg c1) (if_neg c2)))) (fun c2 => V_aload_n (tat ok_X9_nearTold_0 (i := 8) (q := 17) rfl rfl) 0 rfl rfl <|
    V_getI (tat ok_X9_nearTold_0 (i := 9) (q := 20) rfl rfl) fk_X9_263 rfl <|
    V_goto (tat ok_X9_nearTold_0 (i := 10) (q := 23) rfl rfl) rfl <|
    V_X9_nearTold_27  hr (jx (P := P) kk (Eq.trans (if_neg c1) (if_pos c2))))) (fun c1 => V_aload_n (tat ok_X9_nearTold_0 (i := 2) (q := 5) rfl rfl) 0 rfl rfl <|
    V_getI (tat ok_X9_nearTold_0 (i := 3) (q := 8) rfl rfl) fk_X9_260 rfl <|
    V_goto (tat ok_X9_nearTold_0 (i := 4) (q := 11) rfl rfl) rfl <|
    V_X9_nearTold_27  hr (jx (P := P) kk (if_pos c1)))
theorem ct_X9_nearTold  (I : WI) (L : WL) (a1 : Int32)  : Ct x_X9_nearTold 1 [.ref 33, .int a1] ly0 I L R0 0 0 (some (.int (F_X9_nearTold I a1)), ly0, I, L, R0) :=
  Ct_of_V mo_X9_nearTold.1 (Nat.le_of_ble_eq_true rfl) (V_X9_nearTold (P := fun x => x = (F_X9_nearTold I a1))  (fun _ e => by rw [e]) rfl)
def F_X9_nearest (I : WI) (L : WL) (a1 : Int32) : Option (Int32 × WI) :=
  (if (F_X9_in (Int32.toInt64 a1) 0 2) = 0 then some ((-1), I) else (if (bz (I 33 4)) = 0 then some ((-2), I) else (Option.bind (F_X9_findNearest I ((L 33 2) ^^^ (L 33 3))) (fun v3 => some ((F_X9_nearTold v3 a1), v3)))))
theorem V_X9_nearest  {I : WI} {L : WL} {a1 : Int32}  {P : (Int32 × WI) → Prop} {t : Tg} (hr : ∀ v, P v → t = (some (.int (p1 v)), ly0, (p2 v), L, R0)) : oP P (F_X9_nearest I L a1) → V (zM x_X9_nearest 4 0 0 t) 0 [(0, .ref 33), (1, .int a1)] [] ly0 I L R0 0 0 :=
  fun _ =>
  have kq : (oP P (F_X9_nearest I L a1)) ∧ True := ⟨by assumption, trivial⟩
  V_iload_n (tat ok_X9_nearest_0 (i := 0) (q := 1) rfl rfl) 1 rfl rfl <|
    V_i2l (tat ok_X9_nearest_0 (i := 1) (q := 2) rfl rfl) <|
    V_lconst (v := 0) (tat ok_X9_nearest_0 (i := 2) (q := 3) rfl rfl) rfl <|
    V_ldc2 (tat ok_X9_nearest_0 (i := 3) (q := 6) rfl rfl) (gw_in kl_X9_189 rfl) <|
    V_cs3 (ct_X9_in I L (Int32.toInt64 a1) 0 2 ) mo_X9_in (tat ok_X9_nearest_0 (i := 4) (q := 9) rfl rfl) ml_X9_97 ⟨(Nat.le_of_ble_eq_true rfl), (Nat.le_of_ble_eq_true rfl)⟩ ⟨(Nat.le_of_ble_eq_true rfl), (Nat.le_of_ble_eq_true rfl)⟩ (Nat.le_of_ble_eq_true rfl) <|
    V_if_ne (tat ok_X9_nearest_0 (i := 5) (q := 12) rfl rfl) rfl (fun c1 => V_aload_n (tat ok_X9_nearest_0 (i := 8) (q := 15) rfl rfl) 0 rfl rfl <|
    V_getZ (tat ok_X9_nearest_0 (i := 9) (q := 18) rfl rfl) fk_X9_86 rfl <|
    V_if_ne (tat ok_X9_nearest_0 (i := 10) (q := 21) rfl rfl) rfl (fun c2 => V_aload_n (tat ok_X9_nearest_0 (i := 13) (q := 25) rfl rfl) 0 rfl rfl <|
    V_aload_n (tat ok_X9_nearest_0 (i := 14) (q := 26) rfl rfl) 0 rfl rfl <|
    V_getL (tat ok_X9_nearest_0 (i := 15) (q := 29) rfl rfl) fk_X9_80 rfl <|
    V_aload_n (tat ok_X9_nearest_0 (i := 16) (q := 30) rfl rfl) 0 rfl rfl <|
    V_getL (tat ok_X9_nearest_0 (i := 17) (q := 33) rfl rfl) fk_X9_83 rfl <|
    V_lxor (tat ok_X9_nearest_0 (i := 18) (q := 34) rfl rfl) <|
    oP_case (jq (P := oP P) kq (Eq.trans (if_neg c1) (if_neg c2))) (fun v3 e3 _ => V_cv1v (ct_X9_findNearest I L ((L 33 2) ^^^ (L 33 3))  e3) mo_X9_findNearest (tat ok_X9_nearest_0 (i := 19) (q := 37) rfl rfl) ml_X9_269 rfl ⟨by decide, _, rfl, rfl⟩ ⟨(Nat.le_of_ble_eq_true rfl), (Nat.le_of_ble_eq_true rfl)⟩ ⟨(Nat.le_of_ble_eq_true rfl), (Nat.le_of_ble_eq_true rfl)⟩ (Nat.le_of_ble_eq_true rfl) <|
    V_aload_n (tat ok_X9_nearest_0 (i := 20) (q := 38) rfl rfl) 0 rfl rfl <|
    V_iload_n (tat ok_X9_nearest_0 (i := 21) (q := 39) rfl rfl) 1 rfl rfl <|
    V_cv1 (ct_X9_nearTold v3 L a1 ) mo_X9_nearTold (tat ok_X9_nearest_0 (i := 22) (q := 42) rfl rfl) ml_X9_273 rfl ⟨by decide, _, rfl, rfl⟩ ⟨(Nat.le_of_ble_eq_true rfl), (Nat.le_of_ble_eq_true rfl)⟩ ⟨(Nat.le_of_ble_eq_true rfl), (Nat.le_of_ble_eq_true rfl)⟩ (Nat.le_of_ble_eq_true rfl) <|
    V_iret (tat ok_X9_nearest_0 (i := 23) (q := 43) rfl rfl) _ rfl (nar_int _) (hr ((F_X9_nearTold v3 a1), v3) (jq (P := oP P) kq (Eq.trans (if_neg c1) (Eq.trans (if_neg c2) (ob e3))))) ⟨(Nat.le_of_ble_eq_true rfl), (Nat.le_of_ble_eq_true rfl)⟩)) (fun c2 => V_bipush (tat ok_X9_nearest_0 (i := 11) (q := 23) rfl rfl) bp_m2 <|
    V_iret (tat ok_X9_nearest_0 (i := 12) (q := 24) rfl rfl) _ rfl (nar_int _) (hr ((-2), I) (jq (P := oP P) kq (Eq.trans (if_neg c1) (if_pos c2)))) ⟨(Nat.le_of_ble_eq_true rfl), (Nat.le_of_ble_eq_true rfl)⟩)) (fun c1 => V_iconst (tat ok_X9_nearest_0 (i := 6) (q := 13) rfl rfl) ic_m1 <|
    V_iret (tat ok_X9_nearest_0 (i := 7) (q := 14) rfl rfl) _ rfl (nar_int _) (hr ((-1), I) (jq (P := oP P) kq (if_pos c1))) ⟨(Nat.le_of_ble_eq_true rfl), (Nat.le_of_ble_eq_true rfl)⟩)
theorem ct_X9_nearest  (I : WI) (L : WL) (a1 : Int32)  {v : (Int32 × WI)} (h : (F_X9_nearest I L a1) = some v) : Ct x_X9_nearest 4 [.ref 33, .int a1] ly0 I L R0 0 0 (some (.int (p1 v)), ly0, (p2 v), L, R0) :=
  Ct_of_V mo_X9_nearest.1 (Nat.le_of_ble_eq_true rfl) (V_X9_nearest (P := fun x => x = v)  (fun _ e => by rw [e]) (by rw [h]; exact rfl))
def F_X9_lightest (I : WI) (L : WL) (a1 : Int32) : Option (Int32 × WI) :=
  (if (F_X9_in (Int32.toInt64 a1) 0 2) = 0 then some ((-1), I) else (Option.bind (F_X9_findNearest I (L 33 2)) (fun v2 => some ((F_X9_nearTold v2 a1), v2))))
theorem V_X9_lightest  {I : WI} {L : WL} {a1 : Int32}  {P : (Int32 × WI) → Prop} {t : Tg} (hr : ∀ v, P v → t = (some (.int (p1 v)), ly0, (p2 v), L, R0)) : oP P (F_X9_lightest I L a1) → V (zM x_X9_lightest 4 0 0 t) 0 [(0, .ref 33), (1, .int a1)] [] ly0 I L R0 0 0 :=
  fun _ =>
  have kq : (oP P (F_X9_lightest I L a1)) ∧ True := ⟨by assumption, trivial⟩
  V_iload_n (tat ok_X9_lightest_0 (i := 0) (q := 1) rfl rfl) 1 rfl rfl <|
    V_i2l (tat ok_X9_lightest_0 (i := 1) (q := 2) rfl rfl) <|
    V_lconst (v := 0) (tat ok_X9_lightest_0 (i := 2) (q := 3) rfl rfl) rfl <|
    V_ldc2 (tat ok_X9_lightest_0 (i := 3) (q := 6) rfl rfl) (gw_in kl_X9_189 rfl) <|
    V_cs3 (ct_X9_in I L (Int32.toInt64 a1) 0 2 ) mo_X9_in (tat ok_X9_lightest_0 (i := 4) (q := 9) rfl rfl) ml_X9_97 ⟨(Nat.le_of_ble_eq_true rfl), (Nat.le_of_ble_eq_true rfl)⟩ ⟨(Nat.le_of_ble_eq_true rfl), (Nat.le_of_ble_eq_true rfl)⟩ (Nat.le_of_ble_eq_true rfl) <|
    V_if_ne (tat ok_X9_lightest_0 (i := 5) (q := 12) rfl rfl) rfl (fun c1 => V_aload_n (tat ok_X9_lightest_0 (i := 8) (q := 15) rfl rfl) 0 rfl rfl <|
    V_aload_n (tat ok_X9_lightest_0 (i := 9) (q := 16) rfl rfl) 0 rfl rfl <|
    V_getL (tat ok_X9_lightest_0 (i := 10) (q := 19) rfl rfl) fk_X9_80 rfl <|
    oP_case (jq (P := oP P) kq (if_neg c1)) (fun v2 e2 _ => V_cv1v (ct_X9_findNearest I L (L 33 2)  e2) mo_X9_findNearest (tat ok_X9_lightest_0 (i := 11) (q := 22) rfl rfl) ml_X9_269 rfl ⟨by decide, _, rfl, rfl⟩ ⟨(Nat.le_of_ble_eq_true rfl), (Nat.le_of_ble_eq_true rfl)⟩ ⟨(Nat.le_of_ble_eq_true rfl), (Nat.le_of_ble_eq_true rfl)⟩ (Nat.le_of_ble_eq_true rfl) <|
    V_aload_n (tat ok_X9_lightest_0 (i := 12) (q := 23) rfl rfl) 0 rfl rfl <|
    V_iload_n (tat ok_X9_lightest_0 (i := 13) (q := 24) rfl rfl) 1 rfl rfl <|
    V_cv1 (ct_X9_nearTold v2 L a1 ) mo_X9_nearTold (tat ok_X9_lightest_0 (i := 14) (q := 27) rfl rfl) ml_X9_273 rfl ⟨by decide, _, rfl, rfl⟩ ⟨(Nat.le_of_ble_eq_true rfl), (Nat.le_of_ble_eq_true rfl)⟩ ⟨(Nat.le_of_ble_eq_true rfl), (Nat.le_of_ble_eq_true rfl)⟩ (Nat.le_of_ble_eq_true rfl) <|
    V_iret (tat ok_X9_lightest_0 (i := 15) (q := 28) rfl rfl) _ rfl (nar_int _) (hr ((F_X9_nearTold v2 a1), v2) (jq (P := oP P) kq (Eq.trans (if_neg c1) (ob e2)))) ⟨(Nat.le_of_ble_eq_true rfl), (Nat.le_of_ble_eq_true rfl)⟩)) (fun c1 => V_iconst (tat ok_X9_lightest_0 (i := 6) (q := 13) rfl rfl) ic_m1 <|
    V_iret (tat ok_X9_lightest_0 (i := 7) (q := 14) rfl rfl) _ rfl (nar_int _) (hr ((-1), I) (jq (P := oP P) kq (if_pos c1))) ⟨(Nat.le_of_ble_eq_true rfl), (Nat.le_of_ble_eq_true rfl)⟩)
theorem ct_X9_lightest  (I : WI) (L : WL) (a1 : Int32)  {v : (Int32 × WI)} (h : (F_X9_lightest I L a1) = some v) : Ct x_X9_lightest 4 [.ref 33, .int a1] ly0 I L R0 0 0 (some (.int (p1 v)), ly0, (p2 v), L, R0) :=
  Ct_of_V mo_X9_lightest.1 (Nat.le_of_ble_eq_true rfl) (V_X9_lightest (P := fun x => x = v)  (fun _ e => by rw [e]) (by rw [h]; exact rfl))
def F_X9_mostOf_90_1 (I : WI) (a1 : Int64) (a3 : Int32) (a4 : Int32) (a6 : Int32) (s0 : Int32) : Option (Int32 ⊕ (Int32 × Int32 × Int32)) :=
  some (.inr (a4, s0, (a6 + 1)))
theorem V_X9_mostOf_90_1  {I : WI} {L : WL} {a1 : Int64} {a3 : Int32} {a4 : Int32} {a6 : Int32} {s0 : Int32} {P : (Int32 ⊕ (Int32 × Int32 × Int32)) → Prop} {t : Tg} (he : ∀ x : Int32, P (.inl x) → V (zM x_X9_mostOf 3 0 0 t) 98 [(0, .ref 33), (1, .long a1), (3, .int a3), (4, .int x)] [] ly0 I L R0 0 0) (hk : ∀ x : (Int32 × Int32 × Int32), P (.inr x) → V (zM x_X9_mostOf 3 0 0 t) 26 [(0, .ref 33), (1, .long a1), (3, .int a3), (4, .int (p1 x)), (5, .int (p1 (p2 x))), (6, .int (p2 (p2 x)))] [] ly0 I L R0 0 0) : oP P (F_X9_mostOf_90_1 I a1 a3 a4 a6 s0) → V (zM x_X9_mostOf 3 0 0 t) 90 [(0, .ref 33), (1, .long a1), (3, .int a3), (4, .int a4), (6, .int a6)] [.int s0] ly0 I L R0 0 0 :=
  fun _ =>
  have kq : (oP P (F_X9_mostOf_90_1 I a1 a3 a4 a6 s0)) ∧ True := ⟨by assumption, trivial⟩
  V_istore (lv' := [(5, .int s0), (0, .ref 33), (1, .long a1), (3, .int a3), (4, .int a4), (6, .int a6)]) (tat ok_X9_mostOf_1 (i := 4) (q := 92) rfl rfl) (Nat.le_of_ble_eq_true rfl) rfl <|
    V_iinc (v := (a6 + 1)) (lv' := [(6, .int (a6 + 1)), (5, .int s0), (0, .ref 33), (1, .long a1), (3, .int a3), (4, .int a4)]) (tat ok_X9_mostOf_1 (i := 5) (q := 95) rfl rfl) 5 rfl (ia ic_1) (Nat.le_of_ble_eq_true rfl) rfl <|
    V_goto (tat ok_X9_mostOf_1 (i := 6) (q := 98) rfl rfl) rfl <|
    V_pick [2, 3, 4, 5, 1, 0] rfl (hk (a4, s0, (a6 + 1)) (jq (P := oP P) kq rfl))
def F_X9_mostOf_74_1 (I : WI) (a1 : Int64) (a3 : Int32) (a5 : Int32) (a6 : Int32) (a7 : Int32) (s0 : Int32) : Option (Int32 ⊕ (Int32 × Int32 × Int32)) :=
  (if a7 ≤ a5 then (F_X9_mostOf_90_1 I a1 a3 s0 a6 a5) else (F_X9_mostOf_90_1 I a1 a3 s0 a6 a7))
theorem V_X9_mostOf_74_1  {I : WI} {L : WL} {a1 : Int64} {a3 : Int32} {a5 : Int32} {a6 : Int32} {a7 : Int32} {s0 : Int32} {P : (Int32 ⊕ (Int32 × Int32 × Int32)) → Prop} {t : Tg} (he : ∀ x : Int32, P (.inl x) → V (zM x_X9_mostOf 3 0 0 t) 98 [(0, .ref 33), (1, .long a1), (3, .int a3), (4, .int x)] [] ly0 I L R0 0 0) (hk : ∀ x : (Int32 × Int32 × Int32), P (.inr x) → V (zM x_X9_mostOf 3 0 0 t) 26 [(0, .ref 33), (1, .long a1), (3, .int a3), (4, .int (p1 x)), (5, .int (p1 (p2 x))), (6, .int (p2 (p2 x)))] [] ly0 I L R0 0 0) : oP P (F_X9_mostOf_74_1 I a1 a3 a5 a6 a7 s0) → V (zM x_X9_mostOf 3 0 0 t) 74 [(0, .ref 33), (1, .long a1), (3, .int a3), (5, .int a5), (6, .int a6), (7, .int a7)] [.int s0] ly0 I L R0 0 0 :=
  fun _ =>
  have kq : (oP P (F_X9_mostOf_74_1 I a1 a3 a5 a6 a7 s0)) ∧ True := ⟨by assumption, trivial⟩
  V_istore (lv' := [(4, .int s0), (0, .ref 33), (1, .long a1), (3, .int a3), (5, .int a5), (6, .int a6), (7, .int a7)]) (tat ok_X9_mostOf_0 (i := 37) (q := 76) rfl rfl) (Nat.le_of_ble_eq_true rfl) rfl <|
    V_iload (tat ok_X9_mostOf_0 (i := 38) (q := 78) rfl rfl) 6 rfl <|
    V_iload (tat ok_X9_mostOf_0 (i := 39) (q := 80) rfl rfl) 4 rfl <|
    V_icmp_le (tat ok_X9_mostOf_1 (i := 0) (q := 83) rfl rfl) rfl (fun c5 => V_iload (tat ok_X9_mostOf_1 (i := 3) (q := 90) rfl rfl) 4 rfl <|
    V_pick [1, 2, 3, 0, 5] rfl (V_X9_mostOf_90_1  he hk (jq (P := oP P) kq (if_pos c5)))) (fun c5 => V_iload (tat ok_X9_mostOf_1 (i := 1) (q := 85) rfl rfl) 6 rfl <|
    V_goto (tat ok_X9_mostOf_1 (i := 2) (q := 88) rfl rfl) rfl <|
    V_pick [1, 2, 3, 0, 5] rfl (V_X9_mostOf_90_1  he hk (jq (P := oP P) kq (if_neg c5))))
def F_X9_mostOf_43_1 (I : WI) (a1 : Int64) (a3 : Int32) (a4 : Int32) (a5 : Int32) (a6 : Int32) (s0 : Int32) (s1 : Int32) : Option (Int32 ⊕ (Int32 × Int32 × Int32)) :=
  (if s0 ≤ s1 then some (.inl a4) else (if (F_X9_many (a1 &&& (F_X9_actSet I a3 a6))) ≤ a5 then (F_X9_mostOf_74_1 I a1 a3 a5 a6 (F_X9_many (a1 &&& (F_X9_actSet I a3 a6))) a4) else (F_X9_mostOf_74_1 I a1 a3 a5 a6 (F_X9_many (a1 &&& (F_X9_actSet I a3 a6))) a6)))
theorem V_X9_mostOf_43_1  {I : WI} {L : WL} {a1 : Int64} {a3 : Int32} {a4 : Int32} {a5 : Int32} {a6 : Int32} {s0 : Int32} {s1 : Int32} {P : (Int32 ⊕ (Int32 × Int32 × Int32)) → Prop} {t : Tg} (he : ∀ x : Int32, P (.inl x) → V (zM x_X9_mostOf 3 0 0 t) 98 [(0, .ref 33), (1, .long a1), (3, .int a3), (4, .int x)] [] ly0 I L R0 0 0) (hk : ∀ x : (Int32 × Int32 × Int32), P (.inr x) → V (zM x_X9_mostOf 3 0 0 t) 26 [(0, .ref 33), (1, .long a1), (3, .int a3), (4, .int (p1 x)), (5, .int (p1 (p2 x))), (6, .int (p2 (p2 x)))] [] ly0 I L R0 0 0) : oP P (F_X9_mostOf_43_1 I a1 a3 a4 a5 a6 s0 s1) → V (zM x_X9_mostOf 3 0 0 t) 43 [(0, .ref 33), (1, .long a1), (3, .int a3), (4, .int a4), (5, .int a5), (6, .int a6)] [.int s0, .int s1] ly0 I L R0 0 0 :=
  fun _ =>
  have kq : (oP P (F_X9_mostOf_43_1 I a1 a3 a4 a5 a6 s0 s1)) ∧ True := ⟨by assumption, trivial⟩
  V_icmp_ge (tat ok_X9_mostOf_0 (i := 22) (q := 46) rfl rfl) rfl (fun c3 => V_pick [0, 1, 2, 3] rfl (he a4 (jq (P := oP P) kq (if_pos c3)))) (fun c3 => V_lload_n (tat ok_X9_mostOf_0 (i := 23) (q := 47) rfl rfl) 1 rfl rfl <|
    V_aload_n (tat ok_X9_mostOf_0 (i := 24) (q := 48) rfl rfl) 0 rfl rfl <|
    V_iload_n (tat ok_X9_mostOf_0 (i := 25) (q := 49) rfl rfl) 2 rfl rfl <|
    V_iload (tat ok_X9_mostOf_0 (i := 26) (q := 51) rfl rfl) 5 rfl <|
    V_cv2 (ct_X9_actSet I L a3 a6 ) mo_X9_actSet (tat ok_X9_mostOf_0 (i := 27) (q := 54) rfl rfl) ml_X9_217 rfl ⟨by decide, _, rfl, rfl⟩ ⟨(Nat.le_of_ble_eq_true rfl), (Nat.le_of_ble_eq_true rfl)⟩ ⟨(Nat.le_of_ble_eq_true rfl), (Nat.le_of_ble_eq_true rfl)⟩ (Nat.le_of_ble_eq_true rfl) <|
    V_land (tat ok_X9_mostOf_0 (i := 28) (q := 55) rfl rfl) <|
    V_cs1 (ct_X9_many I L (a1 &&& (F_X9_actSet I a3 a6)) ) mo_X9_many (tat ok_X9_mostOf_0 (i := 29) (q := 58) rfl rfl) ml_X9_220 ⟨(Nat.le_of_ble_eq_true rfl), (Nat.le_of_ble_eq_true rfl)⟩ ⟨(Nat.le_of_ble_eq_true rfl), (Nat.le_of_ble_eq_true rfl)⟩ (Nat.le_of_ble_eq_true rfl) <|
    V_istore (lv' := [(7, .int (F_X9_many (a1 &&& (F_X9_actSet I a3 a6)))), (0, .ref 33), (1, .long a1), (3, .int a3), (4, .int a4), (5, .int a5), (6, .int a6)]) (tat ok_X9_mostOf_0 (i := 30) (q := 60) rfl rfl) (Nat.le_of_ble_eq_true rfl) rfl <|
    V_iload (tat ok_X9_mostOf_0 (i := 31) (q := 62) rfl rfl) 0 rfl <|
    V_iload (tat ok_X9_mostOf_0 (i := 32) (q := 64) rfl rfl) 5 rfl <|
    V_icmp_le (tat ok_X9_mostOf_0 (i := 33) (q := 67) rfl rfl) rfl (fun c4 => V_iload (tat ok_X9_mostOf_0 (i := 36) (q := 74) rfl rfl) 4 rfl <|
    V_pick [1, 2, 3, 5, 6, 0] rfl (V_X9_mostOf_74_1  he hk (jq (P := oP P) kq (Eq.trans (if_neg c3) (if_pos c4))))) (fun c4 => V_iload (tat ok_X9_mostOf_0 (i := 34) (q := 69) rfl rfl) 6 rfl <|
    V_goto (tat ok_X9_mostOf_0 (i := 35) (q := 72) rfl rfl) rfl <|
    V_pick [1, 2, 3, 5, 6, 0] rfl (V_X9_mostOf_74_1  he hk (jq (P := oP P) kq (Eq.trans (if_neg c3) (if_neg c4))))))
def F_X9_mostOf_26_1 (I : WI) (a1 : Int64) (a3 : Int32) (a4 : Int32) (a5 : Int32) (a6 : Int32) : Option (Int32 ⊕ (Int32 × Int32 × Int32)) :=
  (if a3 = 0 then (F_X9_mostOf_43_1 I a1 a3 a4 a5 a6 (I 33 0) a6) else (F_X9_mostOf_43_1 I a1 a3 a4 a5 a6 (I 33 1) a6))
theorem V_X9_mostOf_26_1  {I : WI} {L : WL} {a1 : Int64} {a3 : Int32} {a4 : Int32} {a5 : Int32} {a6 : Int32} {P : (Int32 ⊕ (Int32 × Int32 × Int32)) → Prop} {t : Tg} (he : ∀ x : Int32, P (.inl x) → V (zM x_X9_mostOf 3 0 0 t) 98 [(0, .ref 33), (1, .long a1), (3, .int a3), (4, .int x)] [] ly0 I L R0 0 0) (hk : ∀ x : (Int32 × Int32 × Int32), P (.inr x) → V (zM x_X9_mostOf 3 0 0 t) 26 [(0, .ref 33), (1, .long a1), (3, .int a3), (4, .int (p1 x)), (5, .int (p1 (p2 x))), (6, .int (p2 (p2 x)))] [] ly0 I L R0 0 0) : oP P (F_X9_mostOf_26_1 I a1 a3 a4 a5 a6) → V (zM x_X9_mostOf 3 0 0 t) 26 [(0, .ref 33), (1, .long a1), (3, .int a3), (4, .int a4), (5, .int a5), (6, .int a6)] [] ly0 I L R0 0 0 :=
  fun _ =>
  have kq : (oP P (F_X9_mostOf_26_1 I a1 a3 a4 a5 a6)) ∧ True := ⟨by assumption, trivial⟩
  V_iload (tat ok_X9_mostOf_0 (i := 14) (q := 28) rfl rfl) 5 rfl <|
    V_iload_n (tat ok_X9_mostOf_0 (i := 15) (q := 29) rfl rfl) 2 rfl rfl <|
    V_if_ne (tat ok_X9_mostOf_0 (i := 16) (q := 32) rfl rfl) rfl (fun c2 => V_aload_n (tat ok_X9_mostOf_0 (i := 20) (q := 40) rfl rfl) 0 rfl rfl <|
    V_getI (tat ok_X9_mostOf_0 (i := 21) (q := 43) rfl rfl) fk_X9_77 rfl <|
    V_X9_mostOf_43_1  he hk (jq (P := oP P) kq (if_neg c2))) (fun c2 => V_aload_n (tat ok_X9_mostOf_0 (i := 17) (q := 33) rfl rfl) 0 rfl rfl <|
    V_getI (tat ok_X9_mostOf_0 (i := 18) (q := 36) rfl rfl) fk_X9_74 rfl <|
    V_goto (tat ok_X9_mostOf_0 (i := 19) (q := 39) rfl rfl) rfl <|
    V_X9_mostOf_43_1  he hk (jq (P := oP P) kq (if_pos c2)))
def F_X9_mostOf_98 (I : WI) (a1 : Int64) (a3 : Int32) (a4 : Int32) : Option Int32 :=
  some a4
theorem V_X9_mostOf_98  {I : WI} {L : WL} {a1 : Int64} {a3 : Int32} {a4 : Int32} {P : Int32 → Prop} {t : Tg} (hr : ∀ v, P v → t = (some (.int v), ly0, I, L, R0)) : oP P (F_X9_mostOf_98 I a1 a3 a4) → V (zM x_X9_mostOf 3 0 0 t) 98 [(0, .ref 33), (1, .long a1), (3, .int a3), (4, .int a4)] [] ly0 I L R0 0 0 :=
  fun _ =>
  have kq : (oP P (F_X9_mostOf_98 I a1 a3 a4)) ∧ True := ⟨by assumption, trivial⟩
  V_iload (tat ok_X9_mostOf_1 (i := 7) (q := 100) rfl rfl) 3 rfl <|
    V_iret (tat ok_X9_mostOf_1 (i := 8) (q := 101) rfl rfl) _ rfl (nar_int _) (hr a4 (jq (P := oP P) kq rfl)) ⟨(Nat.le_of_ble_eq_true rfl), (Nat.le_of_ble_eq_true rfl)⟩
def F_X9_mostOf_26 (I : WI) (a1 : Int64) (a3 : Int32) (a4 : Int32) (a5 : Int32) (a6 : Int32) : Option Int32 :=
  (lpp (fun x => (F_X9_mostOf_26_1 I a1 a3 (p1 x) (p1 (p2 x)) (p2 (p2 x)))) 4294967296 (a4, a5, a6)).bind (fun q => (F_X9_mostOf_98 I a1 a3 q))
theorem V_X9_mostOf_26  {I : WI} {L : WL} {a1 : Int64} {a3 : Int32} {a4 : Int32} {a5 : Int32} {a6 : Int32} {P : Int32 → Prop} {t : Tg} (hb6 : bz a6 = a6) (hr : ∀ v, P v → t = (some (.int v), ly0, I, L, R0)) (kk : oP P (F_X9_mostOf_26 I a1 a3 a4 a5 a6)) : V (zM x_X9_mostOf 3 0 0 t) 26 [(0, .ref 33), (1, .long a1), (3, .int a3), (4, .int a4), (5, .int a5), (6, .int a6)] [] ly0 I L R0 0 0 :=
  V_lpp (fun x => (F_X9_mostOf_26_1 I a1 a3 (p1 x) (p1 (p2 x)) (p2 (p2 x)))) (fun x => V (zM x_X9_mostOf 3 0 0 t) 26 [(0, .ref 33), (1, .long a1), (3, .int a3), (4, .int (p1 x)), (5, .int (p1 (p2 x))), (6, .int (p2 (p2 x)))] [] ly0 I L R0 0 0) (fun x => oP P ((F_X9_mostOf_98 I a1 a3 x))) (s := (a4, a5, a6)) (fun x e0 => V_X9_mostOf_26_1 (P := Sum.elim (fun x => oP P ((F_X9_mostOf_98 I a1 a3 x))) (fun x => V (zM x_X9_mostOf 3 0 0 t) 26 [(0, .ref 33), (1, .long a1), (3, .int a3), (4, .int (p1 x)), (5, .int (p1 (p2 x))), (6, .int (p2 (p2 x)))] [] ly0 I L R0 0 0))  (fun x e => V_X9_mostOf_98  hr e) (fun _ e => e) e0) (oP_bind (f := fun q => _) kk)
def F_X9_mostOf_19 (I : WI) (a1 : Int64) (a3 : Int32) (a4 : Int32) (s0 : Int32) : Option Int32 :=
  (F_X9_mostOf_26 I a1 a3 a4 (s0 / 2) 0)
theorem V_X9_mostOf_19  {I : WI} {L : WL} {a1 : Int64} {a3 : Int32} {a4 : Int32} {s0 : Int32} {P : Int32 → Prop} {t : Tg} (hr : ∀ v, P v → t = (some (.int v), ly0, I, L, R0)) : oP P (F_X9_mostOf_19 I a1 a3 a4 s0) → V (zM x_X9_mostOf 3 0 0 t) 19 [(0, .ref 33), (1, .long a1), (3, .int a3), (4, .int a4)] [.int s0] ly0 I L R0 0 0 :=
  fun _ =>
  have kq : (oP P (F_X9_mostOf_19 I a1 a3 a4 s0)) ∧ True := ⟨by assumption, trivial⟩
  V_iconst (tat ok_X9_mostOf_0 (i := 9) (q := 20) rfl rfl) ic_2 <|
    V_idiv (tat ok_X9_mostOf_0 (i := 10) (q := 21) rfl rfl) (by decide) <|
    V_istore (lv' := [(5, .int (s0 / 2)), (0, .ref 33), (1, .long a1), (3, .int a3), (4, .int a4)]) (tat ok_X9_mostOf_0 (i := 11) (q := 23) rfl rfl) (Nat.le_of_ble_eq_true rfl) rfl <|
    V_iconst (tat ok_X9_mostOf_0 (i := 12) (q := 24) rfl rfl) ic_0 <|
    V_istore (lv' := [(6, .int 0), (5, .int (s0 / 2)), (0, .ref 33), (1, .long a1), (3, .int a3), (4, .int a4)]) (tat ok_X9_mostOf_0 (i := 13) (q := 26) rfl rfl) (Nat.le_of_ble_eq_true rfl) rfl <|
    V_pick [2, 3, 4, 5, 1, 0] rfl (V_X9_mostOf_26 rfl hr (jq (P := oP P) kq rfl))
def F_X9_mostOf (I : WI) (a1 : Int64) (a3 : Int32) : Option Int32 :=
  (if a3 = 0 then (F_X9_mostOf_19 I a1 a3 (-4) (I 33 1)) else (F_X9_mostOf_19 I a1 a3 (-4) (I 33 0)))
theorem V_X9_mostOf  {I : WI} {L : WL} {a1 : Int64} {a3 : Int32}  {P : Int32 → Prop} {t : Tg} (hr : ∀ v, P v → t = (some (.int v), ly0, I, L, R0)) : oP P (F_X9_mostOf I a1 a3) → V (zM x_X9_mostOf 3 0 0 t) 0 [(0, .ref 33), (1, .long a1), (3, .int a3)] [] ly0 I L R0 0 0 :=
  fun _ =>
  have kq : (oP P (F_X9_mostOf I a1 a3)) ∧ True := ⟨by assumption, trivial⟩
  V_bipush (tat ok_X9_mostOf_0 (i := 0) (q := 2) rfl rfl) bp_m4 <|
    V_istore (lv' := [(4, .int (-4)), (0, .ref 33), (1, .long a1), (3, .int a3)]) (tat ok_X9_mostOf_0 (i := 1) (q := 4) rfl rfl) (Nat.le_of_ble_eq_true rfl) rfl <|
    V_iload_n (tat ok_X9_mostOf_0 (i := 2) (q := 5) rfl rfl) 3 rfl rfl <|
    V_if_ne (tat ok_X9_mostOf_0 (i := 3) (q := 8) rfl rfl) rfl (fun c1 => V_aload_n (tat ok_X9_mostOf_0 (i := 7) (q := 16) rfl rfl) 1 rfl rfl <|
    V_getI (tat ok_X9_mostOf_0 (i := 8) (q := 19) rfl rfl) fk_X9_74 rfl <|
    V_pick [1, 2, 3, 0] rfl (V_X9_mostOf_19  hr (jq (P := oP P) kq (if_neg c1)))) (fun c1 => V_aload_n (tat ok_X9_mostOf_0 (i := 4) (q := 9) rfl rfl) 1 rfl rfl <|
    V_getI (tat ok_X9_mostOf_0 (i := 5) (q := 12) rfl rfl) fk_X9_77 rfl <|
    V_goto (tat ok_X9_mostOf_0 (i := 6) (q := 15) rfl rfl) rfl <|
    V_pick [1, 2, 3, 0] rfl (V_X9_mostOf_19  hr (jq (P := oP P) kq (if_pos c1))))
theorem ct_X9_mostOf  (I : WI) (L : WL) (a1 : Int64) (a3 : Int32)  {v : Int32} (h : (F_X9_mostOf I a1 a3) = some v) : Ct x_X9_mostOf 3 [.ref 33, .long a1, .int a3] ly0 I L R0 0 0 (some (.int v), ly0, I, L, R0) :=
  Ct_of_V mo_X9_mostOf.1 (Nat.le_of_ble_eq_true rfl) (V_X9_mostOf (P := fun x => x = v)  (fun _ e => by rw [e]) (by rw [h]; exact rfl))
def F_X9_blind_104_1 (I : WI) (L : WL) (a1 : Int32) (a4 : Int32) (s0 : Int64) (s1 : Int64) : Option ((Int64 × Int32) ⊕ (Int64 × Int32)) :=
  some (.inr ((s1 ^^^ s0), (a4 + 1)))
theorem V_X9_blind_104_1  {I : WI} {L : WL} {a1 : Int32} {a4 : Int32} {s0 : Int64} {s1 : Int64} {P : ((Int64 × Int32) ⊕ (Int64 × Int32)) → Prop} {t : Tg} (he : ∀ x : (Int64 × Int32), P (.inl x) → V (zM x_X9_blind 4 0 0 t) 112 [(0, .ref 33), (1, .int a1), (2, .long (p1 x)), (4, .int (p2 x))] [] ly0 I L R0 0 0) (hk : ∀ x : (Int64 × Int32), P (.inr x) → V (zM x_X9_blind 4 0 0 t) 35 [(0, .ref 33), (1, .int a1), (2, .long (p1 x)), (4, .int (p2 x))] [] ly0 I L R0 0 0) : oP P (F_X9_blind_104_1 I L a1 a4 s0 s1) → V (zM x_X9_blind 4 0 0 t) 104 [(0, .ref 33), (1, .int a1), (4, .int a4)] [.long s0, .long s1] ly0 I L R0 0 0 :=
  fun _ =>
  have kq : (oP P (F_X9_blind_104_1 I L a1 a4 s0 s1)) ∧ True := ⟨by assumption, trivial⟩
  V_lxor (tat ok_X9_blind_1 (i := 20) (q := 105) rfl rfl) <|
    V_lstore_n (lv' := [(2, .long (s1 ^^^ s0)), (0, .ref 33), (1, .int a1), (4, .int a4)]) (tat ok_X9_blind_1 (i := 21) (q := 106) rfl rfl) rfl (Nat.le_of_ble_eq_true rfl) rfl <|
    V_iinc (v := (a4 + 1)) (lv' := [(4, .int (a4 + 1)), (2, .long (s1 ^^^ s0)), (0, .ref 33), (1, .int a1)]) (tat ok_X9_blind_1 (i := 22) (q := 109) rfl rfl) 3 rfl (ia ic_1) (Nat.le_of_ble_eq_true rfl) rfl <|
    V_goto (tat ok_X9_blind_1 (i := 23) (q := 112) rfl rfl) rfl <|
    V_pick [2, 3, 1, 0] rfl (hk ((s1 ^^^ s0), (a4 + 1)) (jq (P := oP P) kq rfl))
def F_X9_blind_83_1 (I : WI) (L : WL) (a1 : Int32) (a4 : Int32) (a6 : Int32) (s0 : Int64) (s1 : Int64) : Option ((Int64 × Int32) ⊕ (Int64 × Int32)) :=
  (if a6 = (-4) then (F_X9_blind_104_1 I L a1 a4 0 (s1 ^^^ s0)) else (F_X9_blind_104_1 I L a1 a4 (F_X9_actSet I 1 a6) (s1 ^^^ s0)))
theorem V_X9_blind_83_1  {I : WI} {L : WL} {a1 : Int32} {a4 : Int32} {a6 : Int32} {s0 : Int64} {s1 : Int64} {P : ((Int64 × Int32) ⊕ (Int64 × Int32)) → Prop} {t : Tg} (he : ∀ x : (Int64 × Int32), P (.inl x) → V (zM x_X9_blind 4 0 0 t) 112 [(0, .ref 33), (1, .int a1), (2, .long (p1 x)), (4, .int (p2 x))] [] ly0 I L R0 0 0) (hk : ∀ x : (Int64 × Int32), P (.inr x) → V (zM x_X9_blind 4 0 0 t) 35 [(0, .ref 33), (1, .int a1), (2, .long (p1 x)), (4, .int (p2 x))] [] ly0 I L R0 0 0) : oP P (F_X9_blind_83_1 I L a1 a4 a6 s0 s1) → V (zM x_X9_blind 4 0 0 t) 83 [(0, .ref 33), (1, .int a1), (4, .int a4), (6, .int a6)] [.long s0, .long s1] ly0 I L R0 0 0 :=
  fun _ =>
  have kq : (oP P (F_X9_blind_83_1 I L a1 a4 a6 s0 s1)) ∧ True := ⟨by assumption, trivial⟩
  V_lxor (tat ok_X9_blind_1 (i := 8) (q := 84) rfl rfl) <|
    V_lstore_n (lv' := [(2, .long (s1 ^^^ s0)), (0, .ref 33), (1, .int a1), (4, .int a4), (6, .int a6)]) (tat ok_X9_blind_1 (i := 9) (q := 85) rfl rfl) rfl (Nat.le_of_ble_eq_true rfl) rfl <|
    V_lload_n (tat ok_X9_blind_1 (i := 10) (q := 86) rfl rfl) 0 rfl rfl <|
    V_iload (tat ok_X9_blind_1 (i := 11) (q := 88) rfl rfl) 4 rfl <|
    V_bipush (tat ok_X9_blind_1 (i := 12) (q := 90) rfl rfl) bp_m4 <|
    V_icmp_ne (tat ok_X9_blind_1 (i := 13) (q := 93) rfl rfl) rfl (fun c8 => V_aload_n (tat ok_X9_blind_1 (i := 16) (q := 98) rfl rfl) 1 rfl rfl <|
    V_iconst (tat ok_X9_blind_1 (i := 17) (q := 99) rfl rfl) ic_1 <|
    V_iload (tat ok_X9_blind_1 (i := 18) (q := 101) rfl rfl) 4 rfl <|
    V_cv2 (ct_X9_actSet I L 1 a6 ) mo_X9_actSet (tat ok_X9_blind_1 (i := 19) (q := 104) rfl rfl) ml_X9_217 rfl ⟨by decide, _, rfl, rfl⟩ ⟨(Nat.le_of_ble_eq_true rfl), (Nat.le_of_ble_eq_true rfl)⟩ ⟨(Nat.le_of_ble_eq_true rfl), (Nat.le_of_ble_eq_true rfl)⟩ (Nat.le_of_ble_eq_true rfl) <|
    V_pick [1, 2, 3] rfl (V_X9_blind_104_1  he hk (jq (P := oP P) kq (if_neg c8)))) (fun c8 => V_lconst (v := 0) (tat ok_X9_blind_1 (i := 14) (q := 94) rfl rfl) rfl <|
    V_goto (tat ok_X9_blind_1 (i := 15) (q := 97) rfl rfl) rfl <|
    V_pick [1, 2, 3] rfl (V_X9_blind_104_1  he hk (jq (P := oP P) kq (if_pos c8))))
def F_X9_blind_35_1 (I : WI) (L : WL) (a1 : Int32) (a2 : Int64) (a4 : Int32) : Option ((Int64 × Int32) ⊕ (Int64 × Int32)) :=
  (if 60 ≤ a4 then some (.inl (a2, a4)) else (if (lg_cmp a2 0) = 0 then some (.inl (a2, a4)) else (Option.bind (F_X9_mostOf I a2 0) (fun v5 => (Option.bind (F_X9_mostOf I a2 1) (fun v6 => (if v5 = (-4) then (F_X9_blind_83_1 I L a1 a4 v6 0 a2) else (F_X9_blind_83_1 I L a1 a4 v6 (F_X9_actSet I 0 v5) a2))))))))
theorem V_X9_blind_35_1  {I : WI} {L : WL} {a1 : Int32} {a2 : Int64} {a4 : Int32} {P : ((Int64 × Int32) ⊕ (Int64 × Int32)) → Prop} {t : Tg} (he : ∀ x : (Int64 × Int32), P (.inl x) → V (zM x_X9_blind 4 0 0 t) 112 [(0, .ref 33), (1, .int a1), (2, .long (p1 x)), (4, .int (p2 x))] [] ly0 I L R0 0 0) (hk : ∀ x : (Int64 × Int32), P (.inr x) → V (zM x_X9_blind 4 0 0 t) 35 [(0, .ref 33), (1, .int a1), (2, .long (p1 x)), (4, .int (p2 x))] [] ly0 I L R0 0 0) : oP P (F_X9_blind_35_1 I L a1 a2 a4) → V (zM x_X9_blind 4 0 0 t) 35 [(0, .ref 33), (1, .int a1), (2, .long a2), (4, .int a4)] [] ly0 I L R0 0 0 :=
  fun _ =>
  have kq : (oP P (F_X9_blind_35_1 I L a1 a2 a4)) ∧ True := ⟨by assumption, trivial⟩
  V_iload (tat ok_X9_blind_0 (i := 21) (q := 37) rfl rfl) 3 rfl <|
    V_bipush (tat ok_X9_blind_0 (i := 22) (q := 39) rfl rfl) bp_60 <|
    V_icmp_ge (tat ok_X9_blind_0 (i := 23) (q := 42) rfl rfl) rfl (fun c3 => he (a2, a4) (jq (P := oP P) kq (if_pos c3))) (fun c3 => V_lload_n (tat ok_X9_blind_0 (i := 24) (q := 43) rfl rfl) 2 rfl rfl <|
    V_lconst (v := 0) (tat ok_X9_blind_0 (i := 25) (q := 44) rfl rfl) rfl <|
    V_lcmp (tat ok_X9_blind_0 (i := 26) (q := 45) rfl rfl) <|
    V_if_eq (tat ok_X9_blind_0 (i := 27) (q := 48) rfl rfl) rfl (fun c4 => he (a2, a4) (jq (P := oP P) kq (Eq.trans (if_neg c3) (if_pos c4)))) (fun c4 => V_aload_n (tat ok_X9_blind_0 (i := 28) (q := 49) rfl rfl) 0 rfl rfl <|
    V_lload_n (tat ok_X9_blind_0 (i := 29) (q := 50) rfl rfl) 2 rfl rfl <|
    V_iconst (tat ok_X9_blind_0 (i := 30) (q := 51) rfl rfl) ic_0 <|
    oP_case (jq (P := oP P) kq (Eq.trans (if_neg c3) (if_neg c4))) (fun v5 e5 _ => V_cv2 (ct_X9_mostOf I L a2 0  e5) mo_X9_mostOf (tat ok_X9_blind_0 (i := 31) (q := 54) rfl rfl) ml_X9_276 rfl ⟨by decide, _, rfl, rfl⟩ ⟨(Nat.le_of_ble_eq_true rfl), (Nat.le_of_ble_eq_true rfl)⟩ ⟨(Nat.le_of_ble_eq_true rfl), (Nat.le_of_ble_eq_true rfl)⟩ (Nat.le_of_ble_eq_true rfl) <|
    V_istore (lv' := [(5, .int v5), (0, .ref 33), (1, .int a1), (2, .long a2), (4, .int a4)]) (tat ok_X9_blind_0 (i := 32) (q := 56) rfl rfl) (Nat.le_of_ble_eq_true rfl) rfl <|
    V_aload_n (tat ok_X9_blind_0 (i := 33) (q := 57) rfl rfl) 1 rfl rfl <|
    V_lload_n (tat ok_X9_blind_0 (i := 34) (q := 58) rfl rfl) 3 rfl rfl <|
    V_iconst (tat ok_X9_blind_0 (i := 35) (q := 59) rfl rfl) ic_1 <|
    oP_case (jq (P := oP P) kq (Eq.trans (if_neg c3) (Eq.trans (if_neg c4) (ob e5)))) (fun v6 e6 _ => V_cv2 (ct_X9_mostOf I L a2 1  e6) mo_X9_mostOf (tat ok_X9_blind_0 (i := 36) (q := 62) rfl rfl) ml_X9_276 rfl ⟨by decide, _, rfl, rfl⟩ ⟨(Nat.le_of_ble_eq_true rfl), (Nat.le_of_ble_eq_true rfl)⟩ ⟨(Nat.le_of_ble_eq_true rfl), (Nat.le_of_ble_eq_true rfl)⟩ (Nat.le_of_ble_eq_true rfl) <|
    V_istore (lv' := [(6, .int v6), (5, .int v5), (0, .ref 33), (1, .int a1), (2, .long a2), (4, .int a4)]) (tat ok_X9_blind_0 (i := 37) (q := 64) rfl rfl) (Nat.le_of_ble_eq_true rfl) rfl <|
    V_lload_n (tat ok_X9_blind_0 (i := 38) (q := 65) rfl rfl) 4 rfl rfl <|
    V_iload (tat ok_X9_blind_0 (i := 39) (q := 67) rfl rfl) 1 rfl <|
    V_bipush (tat ok_X9_blind_1 (i := 0) (q := 69) rfl rfl) bp_m4 <|
    V_icmp_ne (tat ok_X9_blind_1 (i := 1) (q := 72) rfl rfl) rfl (fun c7 => V_aload_n (tat ok_X9_blind_1 (i := 4) (q := 77) rfl rfl) 2 rfl rfl <|
    V_iconst (tat ok_X9_blind_1 (i := 5) (q := 78) rfl rfl) ic_0 <|
    V_iload (tat ok_X9_blind_1 (i := 6) (q := 80) rfl rfl) 1 rfl <|
    V_cv2 (ct_X9_actSet I L 0 v5 ) mo_X9_actSet (tat ok_X9_blind_1 (i := 7) (q := 83) rfl rfl) ml_X9_217 rfl ⟨by decide, _, rfl, rfl⟩ ⟨(Nat.le_of_ble_eq_true rfl), (Nat.le_of_ble_eq_true rfl)⟩ ⟨(Nat.le_of_ble_eq_true rfl), (Nat.le_of_ble_eq_true rfl)⟩ (Nat.le_of_ble_eq_true rfl) <|
    V_pick [2, 3, 5, 0] rfl (V_X9_blind_83_1  he hk (jq (P := oP P) kq (Eq.trans (if_neg c3) (Eq.trans (if_neg c4) (Eq.trans (ob e5) (Eq.trans (ob e6) (if_neg c7)))))))) (fun c7 => V_lconst (v := 0) (tat ok_X9_blind_1 (i := 2) (q := 73) rfl rfl) rfl <|
    V_goto (tat ok_X9_blind_1 (i := 3) (q := 76) rfl rfl) rfl <|
    V_pick [2, 3, 5, 0] rfl (V_X9_blind_83_1  he hk (jq (P := oP P) kq (Eq.trans (if_neg c3) (Eq.trans (if_neg c4) (Eq.trans (ob e5) (Eq.trans (ob e6) (if_pos c7))))))))))))
def F_X9_blind_137 (I : WI) (L : WL) (a1 : Int32) (s0 : Int32) : Option Int32 :=
  some s0
theorem V_X9_blind_137  {I : WI} {L : WL} {a1 : Int32} {s0 : Int32} {P : Int32 → Prop} {t : Tg} (hr : ∀ v, P v → t = (some (.int v), ly0, I, L, R0)) : oP P (F_X9_blind_137 I L a1 s0) → V (zM x_X9_blind 4 0 0 t) 137 [(0, .ref 33), (1, .int a1)] [.int s0] ly0 I L R0 0 0 :=
  fun _ =>
  have kq : (oP P (F_X9_blind_137 I L a1 s0)) ∧ True := ⟨by assumption, trivial⟩
  V_iret (tat ok_X9_blind_1 (i := 37) (q := 138) rfl rfl) _ rfl (nar_int _) (hr s0 (jq (P := oP P) kq rfl)) ⟨(Nat.le_of_ble_eq_true rfl), (Nat.le_of_ble_eq_true rfl)⟩
def F_X9_blind_112 (I : WI) (L : WL) (a1 : Int32) (a2 : Int64) (a4 : Int32) : Option Int32 :=
  (if a1 = 1 then (F_X9_blind_137 I L a1 (F_X9_many a2)) else (if (lg_cmp a2 0) = 0 then (F_X9_blind_137 I L a1 a4) else (F_X9_blind_137 I L a1 (-4))))
theorem V_X9_blind_112  {I : WI} {L : WL} {a1 : Int32} {a2 : Int64} {a4 : Int32} {P : Int32 → Prop} {t : Tg} (hr : ∀ v, P v → t = (some (.int v), ly0, I, L, R0)) : oP P (F_X9_blind_112 I L a1 a2 a4) → V (zM x_X9_blind 4 0 0 t) 112 [(0, .ref 33), (1, .int a1), (2, .long a2), (4, .int a4)] [] ly0 I L R0 0 0 :=
  fun _ =>
  have kq : (oP P (F_X9_blind_112 I L a1 a2 a4)) ∧ True := ⟨by assumption, trivial⟩
  V_iload_n (tat ok_X9_blind_1 (i := 24) (q := 113) rfl rfl) 1 rfl rfl <|
    V_iconst (tat ok_X9_blind_1 (i := 25) (q := 114) rfl rfl) ic_1 <|
    V_icmp_ne (tat ok_X9_blind_1 (i := 26) (q := 117) rfl rfl) rfl (fun c9 => V_lload_n (tat ok_X9_blind_1 (i := 30) (q := 125) rfl rfl) 2 rfl rfl <|
    V_lconst (v := 0) (tat ok_X9_blind_1 (i := 31) (q := 126) rfl rfl) rfl <|
    V_lcmp (tat ok_X9_blind_1 (i := 32) (q := 127) rfl rfl) <|
    V_if_ne (tat ok_X9_blind_1 (i := 33) (q := 130) rfl rfl) rfl (fun c10 => V_bipush (tat ok_X9_blind_1 (i := 36) (q := 137) rfl rfl) bp_m4 <|
    V_pick [0, 1] rfl (V_X9_blind_137  hr (jq (P := oP P) kq (Eq.trans (if_neg c9) (if_neg c10))))) (fun c10 => V_iload (tat ok_X9_blind_1 (i := 34) (q := 132) rfl rfl) 3 rfl <|
    V_goto (tat ok_X9_blind_1 (i := 35) (q := 135) rfl rfl) rfl <|
    V_pick [0, 1] rfl (V_X9_blind_137  hr (jq (P := oP P) kq (Eq.trans (if_neg c9) (if_pos c10)))))) (fun c9 => V_lload_n (tat ok_X9_blind_1 (i := 27) (q := 118) rfl rfl) 2 rfl rfl <|
    V_cs1 (ct_X9_many I L a2 ) mo_X9_many (tat ok_X9_blind_1 (i := 28) (q := 121) rfl rfl) ml_X9_220 ⟨(Nat.le_of_ble_eq_true rfl), (Nat.le_of_ble_eq_true rfl)⟩ ⟨(Nat.le_of_ble_eq_true rfl), (Nat.le_of_ble_eq_true rfl)⟩ (Nat.le_of_ble_eq_true rfl) <|
    V_goto (tat ok_X9_blind_1 (i := 29) (q := 124) rfl rfl) rfl <|
    V_pick [0, 1] rfl (V_X9_blind_137  hr (jq (P := oP P) kq (if_pos c9))))
def F_X9_blind_35 (I : WI) (L : WL) (a1 : Int32) (a2 : Int64) (a4 : Int32) : Option Int32 :=
  (lpp (fun x => (F_X9_blind_35_1 I L a1 (p1 x) (p2 x))) 4294967296 (a2, a4)).bind (fun q => (F_X9_blind_112 I L a1 (p1 q) (p2 q)))
theorem V_X9_blind_35  {I : WI} {L : WL} {a1 : Int32} {a2 : Int64} {a4 : Int32} {P : Int32 → Prop} {t : Tg} (hb4 : bz a4 = a4) (hr : ∀ v, P v → t = (some (.int v), ly0, I, L, R0)) (kk : oP P (F_X9_blind_35 I L a1 a2 a4)) : V (zM x_X9_blind 4 0 0 t) 35 [(0, .ref 33), (1, .int a1), (2, .long a2), (4, .int a4)] [] ly0 I L R0 0 0 :=
  V_lpp (fun x => (F_X9_blind_35_1 I L a1 (p1 x) (p2 x))) (fun x => V (zM x_X9_blind 4 0 0 t) 35 [(0, .ref 33), (1, .int a1), (2, .long (p1 x)), (4, .int (p2 x))] [] ly0 I L R0 0 0) (fun x => oP P ((F_X9_blind_112 I L a1 (p1 x) (p2 x)))) (s := (a2, a4)) (fun x e0 => V_X9_blind_35_1 (P := Sum.elim (fun x => oP P ((F_X9_blind_112 I L a1 (p1 x) (p2 x)))) (fun x => V (zM x_X9_blind 4 0 0 t) 35 [(0, .ref 33), (1, .int a1), (2, .long (p1 x)), (4, .int (p2 x))] [] ly0 I L R0 0 0))  (fun x e => V_X9_blind_112  hr e) (fun _ e => e) e0) (oP_bind (f := fun q => _) kk)
def F_X9_blind (I : WI) (L : WL) (a1 : Int32) : Option Int32 :=
  (if (F_X9_in (Int32.toInt64 a1) 0 1) = 0 then some (-1) else (if (bz (I 33 4)) = 0 then some (-2) else (F_X9_blind_35 I L a1 ((L 33 2) ^^^ (L 33 3)) 0)))
theorem V_X9_blind  {I : WI} {L : WL} {a1 : Int32}  {P : Int32 → Prop} {t : Tg} (hr : ∀ v, P v → t = (some (.int v), ly0, I, L, R0)) : oP P (F_X9_blind I L a1) → V (zM x_X9_blind 4 0 0 t) 0 [(0, .ref 33), (1, .int a1)] [] ly0 I L R0 0 0 :=
  fun _ =>
  have kq : (oP P (F_X9_blind I L a1)) ∧ True := ⟨by assumption, trivial⟩
  V_iload_n (tat ok_X9_blind_0 (i := 0) (q := 1) rfl rfl) 1 rfl rfl <|
    V_i2l (tat ok_X9_blind_0 (i := 1) (q := 2) rfl rfl) <|
    V_lconst (v := 0) (tat ok_X9_blind_0 (i := 2) (q := 3) rfl rfl) rfl <|
    V_lconst (v := 1) (tat ok_X9_blind_0 (i := 3) (q := 4) rfl rfl) rfl <|
    V_cs3 (ct_X9_in I L (Int32.toInt64 a1) 0 1 ) mo_X9_in (tat ok_X9_blind_0 (i := 4) (q := 7) rfl rfl) ml_X9_97 ⟨(Nat.le_of_ble_eq_true rfl), (Nat.le_of_ble_eq_true rfl)⟩ ⟨(Nat.le_of_ble_eq_true rfl), (Nat.le_of_ble_eq_true rfl)⟩ (Nat.le_of_ble_eq_true rfl) <|
    V_if_ne (tat ok_X9_blind_0 (i := 5) (q := 10) rfl rfl) rfl (fun c1 => V_aload_n (tat ok_X9_blind_0 (i := 8) (q := 13) rfl rfl) 0 rfl rfl <|
    V_getZ (tat ok_X9_blind_0 (i := 9) (q := 16) rfl rfl) fk_X9_86 rfl <|
    V_if_ne (tat ok_X9_blind_0 (i := 10) (q := 19) rfl rfl) rfl (fun c2 => V_aload_n (tat ok_X9_blind_0 (i := 13) (q := 23) rfl rfl) 0 rfl rfl <|
    V_getL (tat ok_X9_blind_0 (i := 14) (q := 26) rfl rfl) fk_X9_80 rfl <|
    V_aload_n (tat ok_X9_blind_0 (i := 15) (q := 27) rfl rfl) 0 rfl rfl <|
    V_getL (tat ok_X9_blind_0 (i := 16) (q := 30) rfl rfl) fk_X9_83 rfl <|
    V_lxor (tat ok_X9_blind_0 (i := 17) (q := 31) rfl rfl) <|
    V_lstore_n (lv' := [(2, .long ((L 33 2) ^^^ (L 33 3))), (0, .ref 33), (1, .int a1)]) (tat ok_X9_blind_0 (i := 18) (q := 32) rfl rfl) rfl (Nat.le_of_ble_eq_true rfl) rfl <|
    V_iconst (tat ok_X9_blind_0 (i := 19) (q := 33) rfl rfl) ic_0 <|
    V_istore (lv' := [(4, .int 0), (2, .long ((L 33 2) ^^^ (L 33 3))), (0, .ref 33), (1, .int a1)]) (tat ok_X9_blind_0 (i := 20) (q := 35) rfl rfl) (Nat.le_of_ble_eq_true rfl) rfl <|
    V_pick [2, 3, 1, 0] rfl (V_X9_blind_35 rfl hr (jq (P := oP P) kq (Eq.trans (if_neg c1) (if_neg c2))))) (fun c2 => V_bipush (tat ok_X9_blind_0 (i := 11) (q := 21) rfl rfl) bp_m2 <|
    V_iret (tat ok_X9_blind_0 (i := 12) (q := 22) rfl rfl) _ rfl (nar_int _) (hr (-2) (jq (P := oP P) kq (Eq.trans (if_neg c1) (if_pos c2)))) ⟨(Nat.le_of_ble_eq_true rfl), (Nat.le_of_ble_eq_true rfl)⟩)) (fun c1 => V_iconst (tat ok_X9_blind_0 (i := 6) (q := 11) rfl rfl) ic_m1 <|
    V_iret (tat ok_X9_blind_0 (i := 7) (q := 12) rfl rfl) _ rfl (nar_int _) (hr (-1) (jq (P := oP P) kq (if_pos c1))) ⟨(Nat.le_of_ble_eq_true rfl), (Nat.le_of_ble_eq_true rfl)⟩)
theorem ct_X9_blind  (I : WI) (L : WL) (a1 : Int32)  {v : Int32} (h : (F_X9_blind I L a1) = some v) : Ct x_X9_blind 4 [.ref 33, .int a1] ly0 I L R0 0 0 (some (.int v), ly0, I, L, R0) :=
  Ct_of_V mo_X9_blind.1 (Nat.le_of_ble_eq_true rfl) (V_X9_blind (P := fun x => x = v)  (fun _ e => by rw [e]) (by rw [h]; exact rfl))
def F_X9_isBefore_72 (a1 : Int32) (a2 : Int32) (a3 : Int32) (a4 : Int32) (a5 : Int32) (a6 : Int32) (a7 : Int32) (a8 : Int32) (s0 : Int32) : Int32 :=
  s0
theorem V_X9_isBefore_72  {I : WI} {L : WL} {a1 : Int32} {a2 : Int32} {a3 : Int32} {a4 : Int32} {a5 : Int32} {a6 : Int32} {a7 : Int32} {a8 : Int32} {s0 : Int32} {P : Int32 → Prop} {t : Tg} (hs0 : bz s0 = s0) (hr : ∀ v, P v → t = (some (.int v), ly0, I, L, R0)) (kk : P (F_X9_isBefore_72 a1 a2 a3 a4 a5 a6 a7 a8 s0)) : V (zM x_X9_isBefore 1 0 0 t) 72 [(0, .ref 33), (1, .int a1), (2, .int a2), (3, .int a3), (4, .int a4), (5, .int a5), (6, .int a6), (7, .int a7), (8, .int a8)] [.int s0] ly0 I L R0 0 0 :=
  V_iret (tat ok_X9_isBefore_0 (i := 36) (q := 73) rfl rfl) _ rfl (bz_nf hs0).1 (hr s0 (jx (P := P) kk rfl)) ⟨(Nat.le_of_ble_eq_true rfl), (Nat.le_of_ble_eq_true rfl)⟩
def F_X9_isBefore (a1 : Int32) (a2 : Int32) (a3 : Int32) (a4 : Int32) (a5 : Int32) (a6 : Int32) (a7 : Int32) (a8 : Int32) : Int32 :=
  (if a1 = a5 then (if a2 = a6 then (if a3 = a7 then (if a8 ≤ a4 then (F_X9_isBefore_72 a1 a2 a3 a4 a5 a6 a7 a8 0) else (F_X9_isBefore_72 a1 a2 a3 a4 a5 a6 a7 a8 1)) else (if a7 ≤ a3 then (F_X9_isBefore_72 a1 a2 a3 a4 a5 a6 a7 a8 0) else (F_X9_isBefore_72 a1 a2 a3 a4 a5 a6 a7 a8 1))) else (if a6 ≤ a2 then (F_X9_isBefore_72 a1 a2 a3 a4 a5 a6 a7 a8 0) else (F_X9_isBefore_72 a1 a2 a3 a4 a5 a6 a7 a8 1))) else (if a5 ≤ a1 then (F_X9_isBefore_72 a1 a2 a3 a4 a5 a6 a7 a8 0) else (F_X9_isBefore_72 a1 a2 a3 a4 a5 a6 a7 a8 1)))
theorem V_X9_isBefore  {I : WI} {L : WL} {a1 : Int32} {a2 : Int32} {a3 : Int32} {a4 : Int32} {a5 : Int32} {a6 : Int32} {a7 : Int32} {a8 : Int32}  {P : Int32 → Prop} {t : Tg} (hr : ∀ v, P v → t = (some (.int v), ly0, I, L, R0)) (kk : P (F_X9_isBefore a1 a2 a3 a4 a5 a6 a7 a8)) : V (zM x_X9_isBefore 1 0 0 t) 0 [(0, .ref 33), (1, .int a1), (2, .int a2), (3, .int a3), (4, .int a4), (5, .int a5), (6, .int a6), (7, .int a7), (8, .int a8)] [] ly0 I L R0 0 0 :=
  V_iload_n (tat ok_X9_isBefore_0 (i := 0) (q := 1) rfl rfl) 1 rfl rfl <|
    V_iload (tat ok_X9_isBefore_0 (i := 1) (q := 3) rfl rfl) 5 rfl <|
    V_icmp_eq (tat ok_X9_isBefore_0 (i := 2) (q := 6) rfl rfl) rfl (fun c1 => V_iload_n (tat ok_X9_isBefore_0 (i := 10) (q := 21) rfl rfl) 2 rfl rfl <|
    V_iload (tat ok_X9_isBefore_0 (i := 11) (q := 23) rfl rfl) 6 rfl <|
    V_icmp_eq (tat ok_X9_isBefore_0 (i := 12) (q := 26) rfl rfl) rfl (fun c2 => V_iload_n (tat ok_X9_isBefore_0 (i := 20) (q := 41) rfl rfl) 3 rfl rfl <|
    V_iload (tat ok_X9_isBefore_0 (i := 21) (q := 43) rfl rfl) 7 rfl <|
    V_icmp_eq (tat ok_X9_isBefore_0 (i := 22) (q := 46) rfl rfl) rfl (fun c3 => V_iload (tat ok_X9_isBefore_0 (i := 30) (q := 62) rfl rfl) 4 rfl <|
    V_iload (tat ok_X9_isBefore_0 (i := 31) (q := 64) rfl rfl) 8 rfl <|
    V_icmp_ge (tat ok_X9_isBefore_0 (i := 32) (q := 67) rfl rfl) rfl (fun c4 => V_iconst (tat ok_X9_isBefore_0 (i := 35) (q := 72) rfl rfl) ic_0 <|
    V_X9_isBefore_72 rfl hr (jx (P := P) kk (Eq.trans (if_pos c1) (Eq.trans (if_pos c2) (Eq.trans (if_pos c3) (if_pos c4)))))) (fun c4 => V_iconst (tat ok_X9_isBefore_0 (i := 33) (q := 68) rfl rfl) ic_1 <|
    V_goto (tat ok_X9_isBefore_0 (i := 34) (q := 71) rfl rfl) rfl <|
    V_X9_isBefore_72 rfl hr (jx (P := P) kk (Eq.trans (if_pos c1) (Eq.trans (if_pos c2) (Eq.trans (if_pos c3) (if_neg c4))))))) (fun c3 => V_iload_n (tat ok_X9_isBefore_0 (i := 23) (q := 47) rfl rfl) 3 rfl rfl <|
    V_iload (tat ok_X9_isBefore_0 (i := 24) (q := 49) rfl rfl) 7 rfl <|
    V_icmp_ge (tat ok_X9_isBefore_0 (i := 25) (q := 52) rfl rfl) rfl (fun c5 => V_iconst (tat ok_X9_isBefore_0 (i := 28) (q := 57) rfl rfl) ic_0 <|
    V_goto (tat ok_X9_isBefore_0 (i := 29) (q := 60) rfl rfl) rfl <|
    V_X9_isBefore_72 rfl hr (jx (P := P) kk (Eq.trans (if_pos c1) (Eq.trans (if_pos c2) (Eq.trans (if_neg c3) (if_pos c5)))))) (fun c5 => V_iconst (tat ok_X9_isBefore_0 (i := 26) (q := 53) rfl rfl) ic_1 <|
    V_goto (tat ok_X9_isBefore_0 (i := 27) (q := 56) rfl rfl) rfl <|
    V_X9_isBefore_72 rfl hr (jx (P := P) kk (Eq.trans (if_pos c1) (Eq.trans (if_pos c2) (Eq.trans (if_neg c3) (if_neg c5)))))))) (fun c2 => V_iload_n (tat ok_X9_isBefore_0 (i := 13) (q := 27) rfl rfl) 2 rfl rfl <|
    V_iload (tat ok_X9_isBefore_0 (i := 14) (q := 29) rfl rfl) 6 rfl <|
    V_icmp_ge (tat ok_X9_isBefore_0 (i := 15) (q := 32) rfl rfl) rfl (fun c6 => V_iconst (tat ok_X9_isBefore_0 (i := 18) (q := 37) rfl rfl) ic_0 <|
    V_goto (tat ok_X9_isBefore_0 (i := 19) (q := 40) rfl rfl) rfl <|
    V_X9_isBefore_72 rfl hr (jx (P := P) kk (Eq.trans (if_pos c1) (Eq.trans (if_neg c2) (if_pos c6))))) (fun c6 => V_iconst (tat ok_X9_isBefore_0 (i := 16) (q := 33) rfl rfl) ic_1 <|
    V_goto (tat ok_X9_isBefore_0 (i := 17) (q := 36) rfl rfl) rfl <|
    V_X9_isBefore_72 rfl hr (jx (P := P) kk (Eq.trans (if_pos c1) (Eq.trans (if_neg c2) (if_neg c6))))))) (fun c1 => V_iload_n (tat ok_X9_isBefore_0 (i := 3) (q := 7) rfl rfl) 1 rfl rfl <|
    V_iload (tat ok_X9_isBefore_0 (i := 4) (q := 9) rfl rfl) 5 rfl <|
    V_icmp_ge (tat ok_X9_isBefore_0 (i := 5) (q := 12) rfl rfl) rfl (fun c7 => V_iconst (tat ok_X9_isBefore_0 (i := 8) (q := 17) rfl rfl) ic_0 <|
    V_goto (tat ok_X9_isBefore_0 (i := 9) (q := 20) rfl rfl) rfl <|
    V_X9_isBefore_72 rfl hr (jx (P := P) kk (Eq.trans (if_neg c1) (if_pos c7)))) (fun c7 => V_iconst (tat ok_X9_isBefore_0 (i := 6) (q := 13) rfl rfl) ic_1 <|
    V_goto (tat ok_X9_isBefore_0 (i := 7) (q := 16) rfl rfl) rfl <|
    V_X9_isBefore_72 rfl hr (jx (P := P) kk (Eq.trans (if_neg c1) (if_neg c7)))))
theorem ct_X9_isBefore  (I : WI) (L : WL) (a1 : Int32) (a2 : Int32) (a3 : Int32) (a4 : Int32) (a5 : Int32) (a6 : Int32) (a7 : Int32) (a8 : Int32)  : Ct x_X9_isBefore 1 [.ref 33, .int a1, .int a2, .int a3, .int a4, .int a5, .int a6, .int a7, .int a8] ly0 I L R0 0 0 (some (.int (F_X9_isBefore a1 a2 a3 a4 a5 a6 a7 a8)), ly0, I, L, R0) :=
  Ct_of_V mo_X9_isBefore.1 (Nat.le_of_ble_eq_true rfl) (V_X9_isBefore (P := fun x => x = (F_X9_isBefore a1 a2 a3 a4 a5 a6 a7 a8))  (fun _ e => by rw [e]) rfl)
def F_X9_slanted_35 (I : WI) (L : WL) (a1 : Int32) : Option (Int32 × WI) :=
  some ((-2), I)
theorem V_X9_slanted_35  {I : WI} {L : WL} {a1 : Int32}  {P : (Int32 × WI) → Prop} {t : Tg} (hr : ∀ v, P v → t = (some (.int (p1 v)), ly0, (p2 v), L, R0)) : oP P (F_X9_slanted_35 I L a1) → V (zM x_X9_slanted 5 0 0 t) 35 [(0, .ref 33), (1, .int a1)] [] ly0 I L R0 0 0 :=
  fun _ =>
  have kq : (oP P (F_X9_slanted_35 I L a1)) ∧ True := ⟨by assumption, trivial⟩
  V_bipush (tat ok_X9_slanted_0 (i := 18) (q := 37) rfl rfl) bp_m2 <|
    V_iret (tat ok_X9_slanted_0 (i := 19) (q := 38) rfl rfl) _ rfl (nar_int _) (hr ((-2), I) (jq (P := oP P) kq rfl)) ⟨(Nat.le_of_ble_eq_true rfl), (Nat.le_of_ble_eq_true rfl)⟩
def F_X9_slanted_124_2 (I : WI) (L : WL) (a1 : Int32) (a2 : Int32) (a3 : Int32) (a4 : Int32) (a5 : Int32) (a6 : Int32) (a9 : Int32) (s0 : Int64) (s1 : Int64) : Option Int64 :=
  some (s1 ^^^ s0)
theorem V_X9_slanted_124_2  {I : WI} {L : WL} {a1 : Int32} {a2 : Int32} {a3 : Int32} {a4 : Int32} {a5 : Int32} {a6 : Int32} {a9 : Int32} {s0 : Int64} {s1 : Int64} {P : Int64 → Prop} {t : Tg} (hk : ∀ x : Int64, P x → V (zM x_X9_slanted 5 0 0 t) 84 [(0, .ref 33), (1, .int a1), (2, .int a2), (3, .int a3), (4, .int a4), (5, .int a5), (6, .int a6), (7, .long x), (9, .int (a9 + 1))] [] ly0 I L R0 0 0) : oP P (F_X9_slanted_124_2 I L a1 a2 a3 a4 a5 a6 a9 s0 s1) → V (zM x_X9_slanted 5 0 0 t) 124 [(0, .ref 33), (1, .int a1), (2, .int a2), (3, .int a3), (4, .int a4), (5, .int a5), (6, .int a6), (9, .int a9)] [.long s0, .long s1] ly0 I L R0 0 0 :=
  fun _ =>
  have kq : (oP P (F_X9_slanted_124_2 I L a1 a2 a3 a4 a5 a6 a9 s0 s1)) ∧ True := ⟨by assumption, trivial⟩
  V_lxor (tat ok_X9_slanted_1 (i := 32) (q := 125) rfl rfl) <|
    V_lstore (lv' := [(7, .long (s1 ^^^ s0)), (0, .ref 33), (1, .int a1), (2, .int a2), (3, .int a3), (4, .int a4), (5, .int a5), (6, .int a6), (9, .int a9)]) (tat ok_X9_slanted_1 (i := 33) (q := 127) rfl rfl) (Nat.le_of_ble_eq_true rfl) rfl <|
    V_iinc (v := (a9 + 1)) (lv' := [(9, .int (a9 + 1)), (7, .long (s1 ^^^ s0)), (0, .ref 33), (1, .int a1), (2, .int a2), (3, .int a3), (4, .int a4), (5, .int a5), (6, .int a6)]) (tat ok_X9_slanted_1 (i := 34) (q := 130) rfl rfl) 8 rfl (ia ic_1) (Nat.le_of_ble_eq_true rfl) rfl <|
    V_goto (tat ok_X9_slanted_1 (i := 35) (q := 133) rfl rfl) rfl <|
    V_pick [2, 3, 4, 5, 6, 7, 8, 1, 0] rfl (hk (s1 ^^^ s0) (jq (P := oP P) kq rfl))
def F_X9_slanted_100_2 (I : WI) (L : WL) (a1 : Int32) (a2 : Int32) (a3 : Int32) (a4 : Int32) (a5 : Int32) (a6 : Int32) (a9 : Int32) (a7 : Int64) : Option Int64 :=
  (if ((a6 >>> (a9 &&& 31)) &&& 1) = 1 then (F_X9_slanted_124_2 I L a1 a2 a3 a4 a5 a6 a9 (F_X9_actSet I 2 a9) a7) else (F_X9_slanted_124_2 I L a1 a2 a3 a4 a5 a6 a9 0 a7))
theorem V_X9_slanted_100_2  {I : WI} {L : WL} {a1 : Int32} {a2 : Int32} {a3 : Int32} {a4 : Int32} {a5 : Int32} {a6 : Int32} {a9 : Int32} {a7 : Int64} {P : Int64 → Prop} {t : Tg} (hk : ∀ x : Int64, P x → V (zM x_X9_slanted 5 0 0 t) 84 [(0, .ref 33), (1, .int a1), (2, .int a2), (3, .int a3), (4, .int a4), (5, .int a5), (6, .int a6), (7, .long x), (9, .int (a9 + 1))] [] ly0 I L R0 0 0) : oP P (F_X9_slanted_100_2 I L a1 a2 a3 a4 a5 a6 a9 a7) → V (zM x_X9_slanted 5 0 0 t) 100 [(0, .ref 33), (1, .int a1), (2, .int a2), (3, .int a3), (4, .int a4), (5, .int a5), (6, .int a6), (7, .long a7), (9, .int a9)] [] ly0 I L R0 0 0 :=
  fun _ =>
  have kq : (oP P (F_X9_slanted_100_2 I L a1 a2 a3 a4 a5 a6 a9 a7)) ∧ True := ⟨by assumption, trivial⟩
  V_lload (tat ok_X9_slanted_1 (i := 18) (q := 102) rfl rfl) 7 rfl <|
    V_iload (tat ok_X9_slanted_1 (i := 19) (q := 104) rfl rfl) 6 rfl <|
    V_iload (tat ok_X9_slanted_1 (i := 20) (q := 106) rfl rfl) 8 rfl <|
    V_ishr (tat ok_X9_slanted_1 (i := 21) (q := 107) rfl rfl) <|
    V_iconst (tat ok_X9_slanted_1 (i := 22) (q := 108) rfl rfl) ic_1 <|
    V_iand (tat ok_X9_slanted_1 (i := 23) (q := 109) rfl rfl) <|
    V_iconst (tat ok_X9_slanted_1 (i := 24) (q := 110) rfl rfl) ic_1 <|
    V_icmp_ne (tat ok_X9_slanted_1 (i := 25) (q := 113) rfl rfl) rfl (fun c5 => V_lconst (v := 0) (tat ok_X9_slanted_1 (i := 31) (q := 124) rfl rfl) rfl <|
    V_pick [0, 1, 2, 3, 4, 5, 6, 8] rfl (V_X9_slanted_124_2  hk (jq (P := oP P) kq (if_neg c5)))) (fun c5 => V_aload_n (tat ok_X9_slanted_1 (i := 26) (q := 114) rfl rfl) 0 rfl rfl <|
    V_iconst (tat ok_X9_slanted_1 (i := 27) (q := 115) rfl rfl) ic_2 <|
    V_iload (tat ok_X9_slanted_1 (i := 28) (q := 117) rfl rfl) 8 rfl <|
    V_cv2 (ct_X9_actSet I L 2 a9 ) mo_X9_actSet (tat ok_X9_slanted_1 (i := 29) (q := 120) rfl rfl) ml_X9_217 rfl ⟨by decide, _, rfl, rfl⟩ ⟨(Nat.le_of_ble_eq_true rfl), (Nat.le_of_ble_eq_true rfl)⟩ ⟨(Nat.le_of_ble_eq_true rfl), (Nat.le_of_ble_eq_true rfl)⟩ (Nat.le_of_ble_eq_true rfl) <|
    V_goto (tat ok_X9_slanted_1 (i := 30) (q := 123) rfl rfl) rfl <|
    V_pick [0, 1, 2, 3, 4, 5, 6, 8] rfl (V_X9_slanted_124_2  hk (jq (P := oP P) kq (if_pos c5))))
def F_X9_slanted_319_1 (I : WI) (L : WL) (a1 : Int32) (a2 : Int32) (a3 : Int32) (a4 : Int32) (a5 : Int32) (a6 : Int32) : Option ((Int32 × Int32 × Int32 × Int32 × WI) ⊕ (Int32 × Int32 × Int32 × Int32 × Int32 × WI)) :=
  some (.inr (a2, a3, a4, a5, (a6 + 1), I))
theorem V_X9_slanted_319_1  {I : WI} {L : WL} {a1 : Int32} {a2 : Int32} {a3 : Int32} {a4 : Int32} {a5 : Int32} {a6 : Int32} {P : ((Int32 × Int32 × Int32 × Int32 × WI) ⊕ (Int32 × Int32 × Int32 × Int32 × Int32 × WI)) → Prop} {t : Tg} (he : ∀ x : (Int32 × Int32 × Int32 × Int32 × WI), P (.inl x) → V (zM x_X9_slanted 5 0 0 t) 325 [(0, .ref 33), (1, .int a1), (2, .int (p1 x)), (3, .int (p1 (p2 x))), (4, .int (p1 (p2 (p2 x)))), (5, .int (p1 (p2 (p2 (p2 x)))))] [] ly0 (p2 (p2 (p2 (p2 x)))) L R0 0 0) (hk : ∀ x : (Int32 × Int32 × Int32 × Int32 × Int32 × WI), P (.inr x) → V (zM x_X9_slanted 5 0 0 t) 52 [(0, .ref 33), (1, .int a1), (2, .int (p1 x)), (3, .int (p1 (p2 x))), (4, .int (p1 (p2 (p2 x)))), (5, .int (p1 (p2 (p2 (p2 x))))), (6, .int (p1 (p2 (p2 (p2 (p2 x))))))] [] ly0 (p2 (p2 (p2 (p2 (p2 x))))) L R0 0 0) : oP P (F_X9_slanted_319_1 I L a1 a2 a3 a4 a5 a6) → V (zM x_X9_slanted 5 0 0 t) 319 [(0, .ref 33), (1, .int a1), (2, .int a2), (3, .int a3), (4, .int a4), (5, .int a5), (6, .int a6)] [] ly0 I L R0 0 0 :=
  fun _ =>
  have kq : (oP P (F_X9_slanted_319_1 I L a1 a2 a3 a4 a5 a6)) ∧ True := ⟨by assumption, trivial⟩
  V_iinc (v := (a6 + 1)) (lv' := [(6, .int (a6 + 1)), (0, .ref 33), (1, .int a1), (2, .int a2), (3, .int a3), (4, .int a4), (5, .int a5)]) (tat ok_X9_slanted_4 (i := 11) (q := 322) rfl rfl) 6 rfl (ia ic_1) (Nat.le_of_ble_eq_true rfl) rfl <|
    V_goto (tat ok_X9_slanted_4 (i := 12) (q := 325) rfl rfl) rfl <|
    V_pick [1, 2, 3, 4, 5, 6, 0] rfl (hk (a2, a3, a4, a5, (a6 + 1), I) (jq (P := oP P) kq rfl))
def F_X9_slanted_311_3 (I : WI) (L : WL) (a1 : Int32) (a6 : Int32) (a9 : Int32) (a2 : Int32) (a3 : Int32) (a4 : Int32) (s0 : Int32) : Option (Int32 × Int32 × Int32 × Int32) :=
  some (a2, a3, a4, s0)
theorem V_X9_slanted_311_3  {I : WI} {L : WL} {a1 : Int32} {a6 : Int32} {a9 : Int32} {a2 : Int32} {a3 : Int32} {a4 : Int32} {s0 : Int32} {P : (Int32 × Int32 × Int32 × Int32) → Prop} {t : Tg} (hk : ∀ x : (Int32 × Int32 × Int32 × Int32), P x → V (zM x_X9_slanted 5 0 0 t) 145 [(0, .ref 33), (1, .int a1), (2, .int (p1 x)), (3, .int (p1 (p2 x))), (4, .int (p1 (p2 (p2 x)))), (5, .int (p2 (p2 (p2 x)))), (6, .int a6), (9, .int (a9 + 1))] [] ly0 I L R0 0 0) : oP P (F_X9_slanted_311_3 I L a1 a6 a9 a2 a3 a4 s0) → V (zM x_X9_slanted 5 0 0 t) 311 [(0, .ref 33), (1, .int a1), (2, .int a2), (3, .int a3), (4, .int a4), (6, .int a6), (9, .int a9)] [.int s0] ly0 I L R0 0 0 :=
  fun _ =>
  have kq : (oP P (F_X9_slanted_311_3 I L a1 a6 a9 a2 a3 a4 s0)) ∧ True := ⟨by assumption, trivial⟩
  V_istore (lv' := [(5, .int s0), (0, .ref 33), (1, .int a1), (2, .int a2), (3, .int a3), (4, .int a4), (6, .int a6), (9, .int a9)]) (tat ok_X9_slanted_4 (i := 8) (q := 313) rfl rfl) (Nat.le_of_ble_eq_true rfl) rfl <|
    V_iinc (v := (a9 + 1)) (lv' := [(9, .int (a9 + 1)), (5, .int s0), (0, .ref 33), (1, .int a1), (2, .int a2), (3, .int a3), (4, .int a4), (6, .int a6)]) (tat ok_X9_slanted_4 (i := 9) (q := 316) rfl rfl) 7 rfl (ia ic_1) (Nat.le_of_ble_eq_true rfl) rfl <|
    V_goto (tat ok_X9_slanted_4 (i := 10) (q := 319) rfl rfl) rfl <|
    V_pick [2, 3, 4, 5, 6, 1, 7, 0] rfl (hk (a2, a3, a4, s0) (jq (P := oP P) kq rfl))
def F_X9_slanted_297_3 (I : WI) (L : WL) (a1 : Int32) (a6 : Int32) (a9 : Int32) (a2 : Int32) (a3 : Int32) (a5 : Int32) (a13 : Int32) (s0 : Int32) : Option (Int32 × Int32 × Int32 × Int32) :=
  (if a13 = 0 then (F_X9_slanted_311_3 I L a1 a6 a9 a2 a3 s0 a5) else (F_X9_slanted_311_3 I L a1 a6 a9 a2 a3 s0 a6))
theorem V_X9_slanted_297_3  {I : WI} {L : WL} {a1 : Int32} {a6 : Int32} {a9 : Int32} {a2 : Int32} {a3 : Int32} {a5 : Int32} {a13 : Int32} {s0 : Int32} {P : (Int32 × Int32 × Int32 × Int32) → Prop} {t : Tg} (hb13 : bz a13 = a13) (hk : ∀ x : (Int32 × Int32 × Int32 × Int32), P x → V (zM x_X9_slanted 5 0 0 t) 145 [(0, .ref 33), (1, .int a1), (2, .int (p1 x)), (3, .int (p1 (p2 x))), (4, .int (p1 (p2 (p2 x)))), (5, .int (p2 (p2 (p2 x)))), (6, .int a6), (9, .int (a9 + 1))] [] ly0 I L R0 0 0) : oP P (F_X9_slanted_297_3 I L a1 a6 a9 a2 a3 a5 a13 s0) → V (zM x_X9_slanted 5 0 0 t) 297 [(0, .ref 33), (1, .int a1), (2, .int a2), (3, .int a3), (5, .int a5), (6, .int a6), (9, .int a9), (13, .int a13)] [.int s0] ly0 I L R0 0 0 :=
  fun _ =>
  have kq : (oP P (F_X9_slanted_297_3 I L a1 a6 a9 a2 a3 a5 a13 s0)) ∧ True := ⟨by assumption, trivial⟩
  V_istore (lv' := [(4, .int s0), (0, .ref 33), (1, .int a1), (2, .int a2), (3, .int a3), (5, .int a5), (6, .int a6), (9, .int a9), (13, .int a13)]) (tat ok_X9_slanted_4 (i := 2) (q := 299) rfl rfl) (Nat.le_of_ble_eq_true rfl) rfl <|
    V_iload (tat ok_X9_slanted_4 (i := 3) (q := 301) rfl rfl) 8 rfl <|
    V_if_eq (tat ok_X9_slanted_4 (i := 4) (q := 304) rfl rfl) rfl (fun c13 => V_iload (tat ok_X9_slanted_4 (i := 7) (q := 311) rfl rfl) 5 rfl <|
    V_pick [1, 2, 3, 4, 0, 6, 7] rfl (V_X9_slanted_311_3  hk (jq (P := oP P) kq (if_pos c13)))) (fun c13 => V_iload (tat ok_X9_slanted_4 (i := 5) (q := 306) rfl rfl) 6 rfl <|
    V_goto (tat ok_X9_slanted_4 (i := 6) (q := 309) rfl rfl) rfl <|
    V_pick [1, 2, 3, 4, 0, 6, 7] rfl (V_X9_slanted_311_3  hk (jq (P := oP P) kq (if_neg c13))))
def F_X9_slanted_284_3 (I : WI) (L : WL) (a1 : Int32) (a6 : Int32) (a9 : Int32) (a2 : Int32) (a4 : Int32) (a5 : Int32) (a11 : Int32) (a13 : Int32) (s0 : Int32) : Option (Int32 × Int32 × Int32 × Int32) :=
  (if a13 = 0 then (F_X9_slanted_297_3 I L a1 a6 a9 a2 s0 a5 a13 a4) else (F_X9_slanted_297_3 I L a1 a6 a9 a2 s0 a5 a13 a11))
theorem V_X9_slanted_284_3  {I : WI} {L : WL} {a1 : Int32} {a6 : Int32} {a9 : Int32} {a2 : Int32} {a4 : Int32} {a5 : Int32} {a11 : Int32} {a13 : Int32} {s0 : Int32} {P : (Int32 × Int32 × Int32 × Int32) → Prop} {t : Tg} (hb13 : bz a13 = a13) (hk : ∀ x : (Int32 × Int32 × Int32 × Int32), P x → V (zM x_X9_slanted 5 0 0 t) 145 [(0, .ref 33), (1, .int a1), (2, .int (p1 x)), (3, .int (p1 (p2 x))), (4, .int (p1 (p2 (p2 x)))), (5, .int (p2 (p2 (p2 x)))), (6, .int a6), (9, .int (a9 + 1))] [] ly0 I L R0 0 0) : oP P (F_X9_slanted_284_3 I L a1 a6 a9 a2 a4 a5 a11 a13 s0) → V (zM x_X9_slanted 5 0 0 t) 284 [(0, .ref 33), (1, .int a1), (2, .int a2), (4, .int a4), (5, .int a5), (6, .int a6), (9, .int a9), (11, .int a11), (13, .int a13)] [.int s0] ly0 I L R0 0 0 :=
  fun _ =>
  have kq : (oP P (F_X9_slanted_284_3 I L a1 a6 a9 a2 a4 a5 a11 a13 s0)) ∧ True := ⟨by assumption, trivial⟩
  V_istore_n (lv' := [(3, .int s0), (0, .ref 33), (1, .int a1), (2, .int a2), (4, .int a4), (5, .int a5), (6, .int a6), (9, .int a9), (11, .int a11), (13, .int a13)]) (tat ok_X9_slanted_3 (i := 36) (q := 285) rfl rfl) rfl (Nat.le_of_ble_eq_true rfl) rfl <|
    V_iload (tat ok_X9_slanted_3 (i := 37) (q := 287) rfl rfl) 9 rfl <|
    V_if_eq (tat ok_X9_slanted_3 (i := 38) (q := 290) rfl rfl) rfl (fun c12 => V_iload (tat ok_X9_slanted_4 (i := 1) (q := 297) rfl rfl) 4 rfl <|
    V_pick [1, 2, 3, 0, 5, 6, 7, 9] rfl (V_X9_slanted_297_3 hb13 hk (jq (P := oP P) kq (if_pos c12)))) (fun c12 => V_iload (tat ok_X9_slanted_3 (i := 39) (q := 292) rfl rfl) 8 rfl <|
    V_goto (tat ok_X9_slanted_4 (i := 0) (q := 295) rfl rfl) rfl <|
    V_pick [1, 2, 3, 0, 5, 6, 7, 9] rfl (V_X9_slanted_297_3 hb13 hk (jq (P := oP P) kq (if_neg c12))))
def F_X9_slanted_272_3 (I : WI) (L : WL) (a1 : Int32) (a6 : Int32) (a9 : Int32) (a3 : Int32) (a4 : Int32) (a5 : Int32) (a10 : Int32) (a11 : Int32) (a13 : Int32) (s0 : Int32) : Option (Int32 × Int32 × Int32 × Int32) :=
  (if a13 = 0 then (F_X9_slanted_284_3 I L a1 a6 a9 s0 a4 a5 a11 a13 a3) else (F_X9_slanted_284_3 I L a1 a6 a9 s0 a4 a5 a11 a13 a10))
theorem V_X9_slanted_272_3  {I : WI} {L : WL} {a1 : Int32} {a6 : Int32} {a9 : Int32} {a3 : Int32} {a4 : Int32} {a5 : Int32} {a10 : Int32} {a11 : Int32} {a13 : Int32} {s0 : Int32} {P : (Int32 × Int32 × Int32 × Int32) → Prop} {t : Tg} (hb13 : bz a13 = a13) (hk : ∀ x : (Int32 × Int32 × Int32 × Int32), P x → V (zM x_X9_slanted 5 0 0 t) 145 [(0, .ref 33), (1, .int a1), (2, .int (p1 x)), (3, .int (p1 (p2 x))), (4, .int (p1 (p2 (p2 x)))), (5, .int (p2 (p2 (p2 x)))), (6, .int a6), (9, .int (a9 + 1))] [] ly0 I L R0 0 0) : oP P (F_X9_slanted_272_3 I L a1 a6 a9 a3 a4 a5 a10 a11 a13 s0) → V (zM x_X9_slanted 5 0 0 t) 272 [(0, .ref 33), (1, .int a1), (3, .int a3), (4, .int a4), (5, .int a5), (6, .int a6), (9, .int a9), (10, .int a10), (11, .int a11), (13, .int a13)] [.int s0] ly0 I L R0 0 0 :=
  fun _ =>
  have kq : (oP P (F_X9_slanted_272_3 I L a1 a6 a9 a3 a4 a5 a10 a11 a13 s0)) ∧ True := ⟨by assumption, trivial⟩
  V_istore_n (lv' := [(2, .int s0), (0, .ref 33), (1, .int a1), (3, .int a3), (4, .int a4), (5, .int a5), (6, .int a6), (9, .int a9), (10, .int a10), (11, .int a11), (13, .int a13)]) (tat ok_X9_slanted_3 (i := 30) (q := 273) rfl rfl) rfl (Nat.le_of_ble_eq_true rfl) rfl <|
    V_iload (tat ok_X9_slanted_3 (i := 31) (q := 275) rfl rfl) 10 rfl <|
    V_if_eq (tat ok_X9_slanted_3 (i := 32) (q := 278) rfl rfl) rfl (fun c11 => V_iload_n (tat ok_X9_slanted_3 (i := 35) (q := 284) rfl rfl) 3 rfl rfl <|
    V_pick [1, 2, 0, 4, 5, 6, 7, 9, 10] rfl (V_X9_slanted_284_3 hb13 hk (jq (P := oP P) kq (if_pos c11)))) (fun c11 => V_iload (tat ok_X9_slanted_3 (i := 33) (q := 280) rfl rfl) 8 rfl <|
    V_goto (tat ok_X9_slanted_3 (i := 34) (q := 283) rfl rfl) rfl <|
    V_pick [1, 2, 0, 4, 5, 6, 7, 9, 10] rfl (V_X9_slanted_284_3 hb13 hk (jq (P := oP P) kq (if_neg c11))))
def F_X9_slanted_259_3 (I : WI) (L : WL) (a1 : Int32) (a6 : Int32) (a9 : Int32) (a2 : Int32) (a3 : Int32) (a4 : Int32) (a5 : Int32) (a10 : Int32) (a11 : Int32) (a12 : Int32) (s0 : Int32) : Option (Int32 × Int32 × Int32 × Int32) :=
  (if s0 = 0 then (F_X9_slanted_272_3 I L a1 a6 a9 a3 a4 a5 a10 a11 s0 a2) else (F_X9_slanted_272_3 I L a1 a6 a9 a3 a4 a5 a10 a11 s0 a12))
theorem V_X9_slanted_259_3  {I : WI} {L : WL} {a1 : Int32} {a6 : Int32} {a9 : Int32} {a2 : Int32} {a3 : Int32} {a4 : Int32} {a5 : Int32} {a10 : Int32} {a11 : Int32} {a12 : Int32} {s0 : Int32} {P : (Int32 × Int32 × Int32 × Int32) → Prop} {t : Tg} (hs0 : bz s0 = s0) (hk : ∀ x : (Int32 × Int32 × Int32 × Int32), P x → V (zM x_X9_slanted 5 0 0 t) 145 [(0, .ref 33), (1, .int a1), (2, .int (p1 x)), (3, .int (p1 (p2 x))), (4, .int (p1 (p2 (p2 x)))), (5, .int (p2 (p2 (p2 x)))), (6, .int a6), (9, .int (a9 + 1))] [] ly0 I L R0 0 0) : oP P (F_X9_slanted_259_3 I L a1 a6 a9 a2 a3 a4 a5 a10 a11 a12 s0) → V (zM x_X9_slanted 5 0 0 t) 259 [(0, .ref 33), (1, .int a1), (2, .int a2), (3, .int a3), (4, .int a4), (5, .int a5), (6, .int a6), (9, .int a9), (10, .int a10), (11, .int a11), (12, .int a12)] [.int s0] ly0 I L R0 0 0 :=
  fun _ =>
  have kq : (oP P (F_X9_slanted_259_3 I L a1 a6 a9 a2 a3 a4 a5 a10 a11 a12 s0)) ∧ True := ⟨by assumption, trivial⟩
  V_istore (lv' := [(13, .int s0), (0, .ref 33), (1, .int a1), (2, .int a2), (3, .int a3), (4, .int a4), (5, .int a5), (6, .int a6), (9, .int a9), (10, .int a10), (11, .int a11), (12, .int a12)]) (tat ok_X9_slanted_3 (i := 24) (q := 261) rfl rfl) (Nat.le_of_ble_eq_true rfl) rfl <|
    V_iload (tat ok_X9_slanted_3 (i := 25) (q := 263) rfl rfl) 0 rfl <|
    V_if_eq (tat ok_X9_slanted_3 (i := 26) (q := 266) rfl rfl) rfl (fun c10 => V_iload_n (tat ok_X9_slanted_3 (i := 29) (q := 272) rfl rfl) 3 rfl rfl <|
    V_pick [1, 2, 4, 5, 6, 7, 8, 9, 10, 0] rfl (V_X9_slanted_272_3 hs0 hk (jq (P := oP P) kq (if_pos c10)))) (fun c10 => V_iload (tat ok_X9_slanted_3 (i := 27) (q := 268) rfl rfl) 11 rfl <|
    V_goto (tat ok_X9_slanted_3 (i := 28) (q := 271) rfl rfl) rfl <|
    V_pick [1, 2, 4, 5, 6, 7, 8, 9, 10, 0] rfl (V_X9_slanted_272_3 hs0 hk (jq (P := oP P) kq (if_neg c10))))
def F_X9_slanted_254_3 (I : WI) (L : WL) (a1 : Int32) (a6 : Int32) (a9 : Int32) (a2 : Int32) (a3 : Int32) (a4 : Int32) (a5 : Int32) (a10 : Int32) (a11 : Int32) (a12 : Int32) : Option (Int32 × Int32 × Int32 × Int32) :=
  (F_X9_slanted_259_3 I L a1 a6 a9 a2 a3 a4 a5 a10 a11 a12 1)
theorem V_X9_slanted_254_3  {I : WI} {L : WL} {a1 : Int32} {a6 : Int32} {a9 : Int32} {a2 : Int32} {a3 : Int32} {a4 : Int32} {a5 : Int32} {a10 : Int32} {a11 : Int32} {a12 : Int32} {P : (Int32 × Int32 × Int32 × Int32) → Prop} {t : Tg} (hk : ∀ x : (Int32 × Int32 × Int32 × Int32), P x → V (zM x_X9_slanted 5 0 0 t) 145 [(0, .ref 33), (1, .int a1), (2, .int (p1 x)), (3, .int (p1 (p2 x))), (4, .int (p1 (p2 (p2 x)))), (5, .int (p2 (p2 (p2 x)))), (6, .int a6), (9, .int (a9 + 1))] [] ly0 I L R0 0 0) : oP P (F_X9_slanted_254_3 I L a1 a6 a9 a2 a3 a4 a5 a10 a11 a12) → V (zM x_X9_slanted 5 0 0 t) 254 [(0, .ref 33), (1, .int a1), (2, .int a2), (3, .int a3), (4, .int a4), (5, .int a5), (6, .int a6), (9, .int a9), (10, .int a10), (11, .int a11), (12, .int a12)] [] ly0 I L R0 0 0 :=
  fun _ =>
  have kq : (oP P (F_X9_slanted_254_3 I L a1 a6 a9 a2 a3 a4 a5 a10 a11 a12)) ∧ True := ⟨by assumption, trivial⟩
  V_iconst (tat ok_X9_slanted_3 (i := 21) (q := 255) rfl rfl) ic_1 <|
    V_goto (tat ok_X9_slanted_3 (i := 22) (q := 258) rfl rfl) rfl <|
    V_X9_slanted_259_3 rfl hk (jq (P := oP P) kq rfl)
def F_X9_slanted_203_3 (I : WI) (L : WL) (a1 : Int32) (a6 : Int32) (a9 : Int32) (a2 : Int32) (a3 : Int32) (a4 : Int32) (a5 : Int32) (a10 : Int32) (s0 : Int32) : Option (Int32 × Int32 × Int32 × Int32) :=
  (if a2 = (-4) then (F_X9_slanted_254_3 I L a1 a6 a9 a2 a3 a4 a5 a10 s0 (((F_X9_many (Int32.toInt64 a10)) + (F_X9_many (Int32.toInt64 s0))) + (F_X9_many (Int32.toInt64 a6)))) else (if (F_X9_isBefore (((F_X9_many (Int32.toInt64 a10)) + (F_X9_many (Int32.toInt64 s0))) + (F_X9_many (Int32.toInt64 a6))) a10 s0 a6 a2 a3 a4 a5) = 0 then (F_X9_slanted_259_3 I L a1 a6 a9 a2 a3 a4 a5 a10 s0 (((F_X9_many (Int32.toInt64 a10)) + (F_X9_many (Int32.toInt64 s0))) + (F_X9_many (Int32.toInt64 a6))) 0) else (F_X9_slanted_254_3 I L a1 a6 a9 a2 a3 a4 a5 a10 s0 (((F_X9_many (Int32.toInt64 a10)) + (F_X9_many (Int32.toInt64 s0))) + (F_X9_many (Int32.toInt64 a6))))))
theorem V_X9_slanted_203_3  {I : WI} {L : WL} {a1 : Int32} {a6 : Int32} {a9 : Int32} {a2 : Int32} {a3 : Int32} {a4 : Int32} {a5 : Int32} {a10 : Int32} {s0 : Int32} {P : (Int32 × Int32 × Int32 × Int32) → Prop} {t : Tg} (hk : ∀ x : (Int32 × Int32 × Int32 × Int32), P x → V (zM x_X9_slanted 5 0 0 t) 145 [(0, .ref 33), (1, .int a1), (2, .int (p1 x)), (3, .int (p1 (p2 x))), (4, .int (p1 (p2 (p2 x)))), (5, .int (p2 (p2 (p2 x)))), (6, .int a6), (9, .int (a9 + 1))] [] ly0 I L R0 0 0) : oP P (F_X9_slanted_203_3 I L a1 a6 a9 a2 a3 a4 a5 a10 s0) → V (zM x_X9_slanted 5 0 0 t) 203 [(0, .ref 33), (1, .int a1), (2, .int a2), (3, .int a3), (4, .int a4), (5, .int a5), (6, .int a6), (9, .int a9), (10, .int a10)] [.int s0] ly0 I L R0 0 0 :=
  fun _ =>
  have kq : (oP P (F_X9_slanted_203_3 I L a1 a6 a9 a2 a3 a4 a5 a10 s0)) ∧ True := ⟨by assumption, trivial⟩
  V_istore (lv' := [(11, .int s0), (0, .ref 33), (1, .int a1), (2, .int a2), (3, .int a3), (4, .int a4), (5, .int a5), (6, .int a6), (9, .int a9), (10, .int a10)]) (tat ok_X9_slanted_2 (i := 34) (q := 205) rfl rfl) (Nat.le_of_ble_eq_true rfl) rfl <|
    V_iload (tat ok_X9_slanted_2 (i := 35) (q := 207) rfl rfl) 9 rfl <|
    V_i2l (tat ok_X9_slanted_2 (i := 36) (q := 208) rfl rfl) <|
    V_cs1 (ct_X9_many I L (Int32.toInt64 a10) ) mo_X9_many (tat ok_X9_slanted_2 (i := 37) (q := 211) rfl rfl) ml_X9_220 ⟨(Nat.le_of_ble_eq_true rfl), (Nat.le_of_ble_eq_true rfl)⟩ ⟨(Nat.le_of_ble_eq_true rfl), (Nat.le_of_ble_eq_true rfl)⟩ (Nat.le_of_ble_eq_true rfl) <|
    V_iload (tat ok_X9_slanted_2 (i := 38) (q := 213) rfl rfl) 0 rfl <|
    V_i2l (tat ok_X9_slanted_2 (i := 39) (q := 214) rfl rfl) <|
    V_cs1 (ct_X9_many I L (Int32.toInt64 s0) ) mo_X9_many (tat ok_X9_slanted_3 (i := 0) (q := 217) rfl rfl) ml_X9_220 ⟨(Nat.le_of_ble_eq_true rfl), (Nat.le_of_ble_eq_true rfl)⟩ ⟨(Nat.le_of_ble_eq_true rfl), (Nat.le_of_ble_eq_true rfl)⟩ (Nat.le_of_ble_eq_true rfl) <|
    V_iadd (tat ok_X9_slanted_3 (i := 1) (q := 218) rfl rfl) <|
    V_iload (tat ok_X9_slanted_3 (i := 2) (q := 220) rfl rfl) 7 rfl <|
    V_i2l (tat ok_X9_slanted_3 (i := 3) (q := 221) rfl rfl) <|
    V_cs1 (ct_X9_many I L (Int32.toInt64 a6) ) mo_X9_many (tat ok_X9_slanted_3 (i := 4) (q := 224) rfl rfl) ml_X9_220 ⟨(Nat.le_of_ble_eq_true rfl), (Nat.le_of_ble_eq_true rfl)⟩ ⟨(Nat.le_of_ble_eq_true rfl), (Nat.le_of_ble_eq_true rfl)⟩ (Nat.le_of_ble_eq_true rfl) <|
    V_iadd (tat ok_X9_slanted_3 (i := 5) (q := 225) rfl rfl) <|
    V_istore (lv' := [(12, .int (((F_X9_many (Int32.toInt64 a10)) + (F_X9_many (Int32.toInt64 s0))) + (F_X9_many (Int32.toInt64 a6)))), (11, .int s0), (0, .ref 33), (1, .int a1), (2, .int a2), (3, .int a3), (4, .int a4), (5, .int a5), (6, .int a6), (9, .int a9), (10, .int a10)]) (tat ok_X9_slanted_3 (i := 6) (q := 227) rfl rfl) (Nat.le_of_ble_eq_true rfl) rfl <|
    V_iload_n (tat ok_X9_slanted_3 (i := 7) (q := 228) rfl rfl) 4 rfl rfl <|
    V_bipush (tat ok_X9_slanted_3 (i := 8) (q := 230) rfl rfl) bp_m4 <|
    V_icmp_eq (tat ok_X9_slanted_3 (i := 9) (q := 233) rfl rfl) rfl (fun c9 => V_pick [2, 3, 4, 5, 6, 7, 8, 9, 10, 1, 0] rfl (V_X9_slanted_254_3  hk (jq (P := oP P) kq (if_pos c9)))) (fun c9 => V_aload_n (tat ok_X9_slanted_3 (i := 10) (q := 234) rfl rfl) 2 rfl rfl <|
    V_iload (tat ok_X9_slanted_3 (i := 11) (q := 236) rfl rfl) 0 rfl <|
    V_iload (tat ok_X9_slanted_3 (i := 12) (q := 238) rfl rfl) 10 rfl <|
    V_iload (tat ok_X9_slanted_3 (i := 13) (q := 240) rfl rfl) 1 rfl <|
    V_iload (tat ok_X9_slanted_3 (i := 14) (q := 242) rfl rfl) 8 rfl <|
    V_iload_n (tat ok_X9_slanted_3 (i := 15) (q := 243) rfl rfl) 4 rfl rfl <|
    V_iload_n (tat ok_X9_slanted_3 (i := 16) (q := 244) rfl rfl) 5 rfl rfl <|
    V_iload (tat ok_X9_slanted_3 (i := 17) (q := 246) rfl rfl) 6 rfl <|
    V_iload (tat ok_X9_slanted_3 (i := 18) (q := 248) rfl rfl) 7 rfl <|
    V_cv8 (ct_X9_isBefore I L (((F_X9_many (Int32.toInt64 a10)) + (F_X9_many (Int32.toInt64 s0))) + (F_X9_many (Int32.toInt64 a6))) a10 s0 a6 a2 a3 a4 a5 ) mo_X9_isBefore (tat ok_X9_slanted_3 (i := 19) (q := 251) rfl rfl) ml_X9_280 rfl ⟨by decide, _, rfl, rfl⟩ ⟨(Nat.le_of_ble_eq_true rfl), (Nat.le_of_ble_eq_true rfl)⟩ ⟨(Nat.le_of_ble_eq_true rfl), (Nat.le_of_ble_eq_true rfl)⟩ (Nat.le_of_ble_eq_true rfl) <|
    V_if_eq (tat ok_X9_slanted_3 (i := 20) (q := 254) rfl rfl) rfl (fun c14 => V_iconst (tat ok_X9_slanted_3 (i := 23) (q := 259) rfl rfl) ic_0 <|
    V_pick [2, 3, 4, 5, 6, 7, 8, 9, 10, 1, 0] rfl (V_X9_slanted_259_3 rfl hk (jq (P := oP P) kq (Eq.trans (if_neg c9) (if_pos c14))))) (fun c14 => V_pick [2, 3, 4, 5, 6, 7, 8, 9, 10, 1, 0] rfl (V_X9_slanted_254_3  hk (jq (P := oP P) kq (Eq.trans (if_neg c9) (if_neg c14))))))
def F_X9_slanted_176_3 (I : WI) (L : WL) (a1 : Int32) (a6 : Int32) (a9 : Int32) (a2 : Int32) (a3 : Int32) (a4 : Int32) (a5 : Int32) (s0 : Int32) : Option (Int32 × Int32 × Int32 × Int32) :=
  (if a9 = 0 then (F_X9_slanted_203_3 I L a1 a6 a9 a2 a3 a4 a5 s0 (I 33 32)) else (F_X9_slanted_203_3 I L a1 a6 a9 a2 a3 a4 a5 s0 ((I 33 32) ^^^ ((1 <<< ((I 33 1) &&& 31)) - 1))))
theorem V_X9_slanted_176_3  {I : WI} {L : WL} {a1 : Int32} {a6 : Int32} {a9 : Int32} {a2 : Int32} {a3 : Int32} {a4 : Int32} {a5 : Int32} {s0 : Int32} {P : (Int32 × Int32 × Int32 × Int32) → Prop} {t : Tg} (hk : ∀ x : (Int32 × Int32 × Int32 × Int32), P x → V (zM x_X9_slanted 5 0 0 t) 145 [(0, .ref 33), (1, .int a1), (2, .int (p1 x)), (3, .int (p1 (p2 x))), (4, .int (p1 (p2 (p2 x)))), (5, .int (p2 (p2 (p2 x)))), (6, .int a6), (9, .int (a9 + 1))] [] ly0 I L R0 0 0) : oP P (F_X9_slanted_176_3 I L a1 a6 a9 a2 a3 a4 a5 s0) → V (zM x_X9_slanted 5 0 0 t) 176 [(0, .ref 33), (1, .int a1), (2, .int a2), (3, .int a3), (4, .int a4), (5, .int a5), (6, .int a6), (9, .int a9)] [.int s0] ly0 I L R0 0 0 :=
  fun _ =>
  have kq : (oP P (F_X9_slanted_176_3 I L a1 a6 a9 a2 a3 a4 a5 s0)) ∧ True := ⟨by assumption, trivial⟩
  V_istore (lv' := [(10, .int s0), (0, .ref 33), (1, .int a1), (2, .int a2), (3, .int a3), (4, .int a4), (5, .int a5), (6, .int a6), (9, .int a9)]) (tat ok_X9_slanted_2 (i := 19) (q := 178) rfl rfl) (Nat.le_of_ble_eq_true rfl) rfl <|
    V_iload (tat ok_X9_slanted_2 (i := 20) (q := 180) rfl rfl) 8 rfl <|
    V_if_ne (tat ok_X9_slanted_2 (i := 21) (q := 183) rfl rfl) rfl (fun c8 => V_aload_n (tat ok_X9_slanted_2 (i := 25) (q := 191) rfl rfl) 1 rfl rfl <|
    V_getI (tat ok_X9_slanted_2 (i := 26) (q := 194) rfl rfl) fk_X9_248 rfl <|
    V_iconst (tat ok_X9_slanted_2 (i := 27) (q := 195) rfl rfl) ic_1 <|
    V_aload_n (tat ok_X9_slanted_2 (i := 28) (q := 196) rfl rfl) 1 rfl rfl <|
    V_getI (tat ok_X9_slanted_2 (i := 29) (q := 199) rfl rfl) fk_X9_77 rfl <|
    V_ishl (tat ok_X9_slanted_2 (i := 30) (q := 200) rfl rfl) <|
    V_iconst (tat ok_X9_slanted_2 (i := 31) (q := 201) rfl rfl) ic_1 <|
    V_isub (tat ok_X9_slanted_2 (i := 32) (q := 202) rfl rfl) <|
    V_ixor (tat ok_X9_slanted_2 (i := 33) (q := 203) rfl rfl) <|
    V_pick [1, 2, 3, 4, 5, 6, 7, 8, 0] rfl (V_X9_slanted_203_3  hk (jq (P := oP P) kq (if_neg c8)))) (fun c8 => V_aload_n (tat ok_X9_slanted_2 (i := 22) (q := 184) rfl rfl) 1 rfl rfl <|
    V_getI (tat ok_X9_slanted_2 (i := 23) (q := 187) rfl rfl) fk_X9_248 rfl <|
    V_goto (tat ok_X9_slanted_2 (i := 24) (q := 190) rfl rfl) rfl <|
    V_pick [1, 2, 3, 4, 5, 6, 7, 8, 0] rfl (V_X9_slanted_203_3  hk (jq (P := oP P) kq (if_pos c8))))
def F_X9_slanted_151_3 (I : WI) (L : WL) (a1 : Int32) (a6 : Int32) (a9 : Int32) (a2 : Int32) (a3 : Int32) (a4 : Int32) (a5 : Int32) : Option (Int32 × Int32 × Int32 × Int32) :=
  (if a9 = 0 then (F_X9_slanted_176_3 I L a1 a6 a9 a2 a3 a4 a5 (I 33 31)) else (F_X9_slanted_176_3 I L a1 a6 a9 a2 a3 a4 a5 ((I 33 31) ^^^ ((1 <<< ((I 33 0) &&& 31)) - 1))))
theorem V_X9_slanted_151_3  {I : WI} {L : WL} {a1 : Int32} {a6 : Int32} {a9 : Int32} {a2 : Int32} {a3 : Int32} {a4 : Int32} {a5 : Int32} {P : (Int32 × Int32 × Int32 × Int32) → Prop} {t : Tg} (hk : ∀ x : (Int32 × Int32 × Int32 × Int32), P x → V (zM x_X9_slanted 5 0 0 t) 145 [(0, .ref 33), (1, .int a1), (2, .int (p1 x)), (3, .int (p1 (p2 x))), (4, .int (p1 (p2 (p2 x)))), (5, .int (p2 (p2 (p2 x)))), (6, .int a6), (9, .int (a9 + 1))] [] ly0 I L R0 0 0) : oP P (F_X9_slanted_151_3 I L a1 a6 a9 a2 a3 a4 a5) → V (zM x_X9_slanted 5 0 0 t) 151 [(0, .ref 33), (1, .int a1), (2, .int a2), (3, .int a3), (4, .int a4), (5, .int a5), (6, .int a6), (9, .int a9)] [] ly0 I L R0 0 0 :=
  fun _ =>
  have kq : (oP P (F_X9_slanted_151_3 I L a1 a6 a9 a2 a3 a4 a5)) ∧ True := ⟨by assumption, trivial⟩
  V_iload (tat ok_X9_slanted_2 (i := 5) (q := 153) rfl rfl) 7 rfl <|
    V_if_ne (tat ok_X9_slanted_2 (i := 6) (q := 156) rfl rfl) rfl (fun c7 => V_aload_n (tat ok_X9_slanted_2 (i := 10) (q := 164) rfl rfl) 0 rfl rfl <|
    V_getI (tat ok_X9_slanted_2 (i := 11) (q := 167) rfl rfl) fk_X9_245 rfl <|
    V_iconst (tat ok_X9_slanted_2 (i := 12) (q := 168) rfl rfl) ic_1 <|
    V_aload_n (tat ok_X9_slanted_2 (i := 13) (q := 169) rfl rfl) 0 rfl rfl <|
    V_getI (tat ok_X9_slanted_2 (i := 14) (q := 172) rfl rfl) fk_X9_74 rfl <|
    V_ishl (tat ok_X9_slanted_2 (i := 15) (q := 173) rfl rfl) <|
    V_iconst (tat ok_X9_slanted_2 (i := 16) (q := 174) rfl rfl) ic_1 <|
    V_isub (tat ok_X9_slanted_2 (i := 17) (q := 175) rfl rfl) <|
    V_ixor (tat ok_X9_slanted_2 (i := 18) (q := 176) rfl rfl) <|
    V_X9_slanted_176_3  hk (jq (P := oP P) kq (if_neg c7))) (fun c7 => V_aload_n (tat ok_X9_slanted_2 (i := 7) (q := 157) rfl rfl) 0 rfl rfl <|
    V_getI (tat ok_X9_slanted_2 (i := 8) (q := 160) rfl rfl) fk_X9_245 rfl <|
    V_goto (tat ok_X9_slanted_2 (i := 9) (q := 163) rfl rfl) rfl <|
    V_X9_slanted_176_3  hk (jq (P := oP P) kq (if_pos c7)))
def F_X9_slanted_145_1 (I : WI) (L : WL) (a1 : Int32) (a2 : Int32) (a3 : Int32) (a4 : Int32) (a5 : Int32) (a6 : Int32) (a9 : Int32) : Option ((Int32 × Int32 × Int32 × Int32 × WI) ⊕ (Int32 × Int32 × Int32 × Int32 × Int32 × WI)) :=
  (frp0 (fun i x => (F_X9_slanted_151_3 I L a1 a6 i (p1 x) (p1 (p2 x)) (p1 (p2 (p2 x))) (p2 (p2 (p2 x))))) 2 (fu a9 2) a9 (a2, a3, a4, a5)).bind (fun q => (F_X9_slanted_319_1 I L a1 (p1 (p2 q)) (p1 (p2 (p2 q))) (p1 (p2 (p2 (p2 q)))) (p2 (p2 (p2 (p2 q)))) a6))
theorem V_X9_slanted_145_1  {I : WI} {L : WL} {a1 : Int32} {a2 : Int32} {a3 : Int32} {a4 : Int32} {a5 : Int32} {a6 : Int32} {a9 : Int32} {P : ((Int32 × Int32 × Int32 × Int32 × WI) ⊕ (Int32 × Int32 × Int32 × Int32 × Int32 × WI)) → Prop} {t : Tg} (hb9 : bz a9 = a9) (he : ∀ x : (Int32 × Int32 × Int32 × Int32 × WI), P (.inl x) → V (zM x_X9_slanted 5 0 0 t) 325 [(0, .ref 33), (1, .int a1), (2, .int (p1 x)), (3, .int (p1 (p2 x))), (4, .int (p1 (p2 (p2 x)))), (5, .int (p1 (p2 (p2 (p2 x)))))] [] ly0 (p2 (p2 (p2 (p2 x)))) L R0 0 0) (hk : ∀ x : (Int32 × Int32 × Int32 × Int32 × Int32 × WI), P (.inr x) → V (zM x_X9_slanted 5 0 0 t) 52 [(0, .ref 33), (1, .int a1), (2, .int (p1 x)), (3, .int (p1 (p2 x))), (4, .int (p1 (p2 (p2 x)))), (5, .int (p1 (p2 (p2 (p2 x))))), (6, .int (p1 (p2 (p2 (p2 (p2 x))))))] [] ly0 (p2 (p2 (p2 (p2 (p2 x))))) L R0 0 0) (kk : oP P (F_X9_slanted_145_1 I L a1 a2 a3 a4 a5 a6 a9)) : V (zM x_X9_slanted 5 0 0 t) 145 [(0, .ref 33), (1, .int a1), (2, .int a2), (3, .int a3), (4, .int a4), (5, .int a5), (6, .int a6), (9, .int a9)] [] ly0 I L R0 0 0 :=
  V_frp0 (fun i x => (F_X9_slanted_151_3 I L a1 a6 i (p1 x) (p1 (p2 x)) (p1 (p2 (p2 x))) (p2 (p2 (p2 x))))) 2 (fun i x => V (zM x_X9_slanted 5 0 0 t) 145 [(0, .ref 33), (1, .int a1), (2, .int (p1 x)), (3, .int (p1 (p2 x))), (4, .int (p1 (p2 (p2 x)))), (5, .int (p2 (p2 (p2 x)))), (6, .int a6), (9, .int i)] [] ly0 I L R0 0 0) (fun i x => oP P ((F_X9_slanted_319_1 I L a1 (p1 x) (p1 (p2 x)) (p1 (p2 (p2 x))) (p2 (p2 (p2 x))) a6))) (c := a9) (s := (a2, a3, a4, a5)) (fun i x kx kb => V_iload (tat ok_X9_slanted_2 (i := 2) (q := 147) rfl rfl) 7 rfl <|
    V_iconst (tat ok_X9_slanted_2 (i := 3) (q := 148) rfl rfl) ic_2 <|
    V_icmp_ge (tat ok_X9_slanted_2 (i := 4) (q := 151) rfl rfl) rfl (fun c0 => V_pick [0, 1, 2, 3, 4, 5, 6] rfl (V_X9_slanted_319_1  he hk (kx c0))) (fun c0 => V_X9_slanted_151_3 (P := (fun x => (fun i x => V (zM x_X9_slanted 5 0 0 t) 145 [(0, .ref 33), (1, .int a1), (2, .int (p1 x)), (3, .int (p1 (p2 x))), (4, .int (p1 (p2 (p2 x)))), (5, .int (p2 (p2 (p2 x)))), (6, .int a6), (9, .int i)] [] ly0 I L R0 0 0) (i + 1) x))  (fun _ e => e) (kb c0))) (oP_bind (f := fun q => _) kk)
def F_X9_slanted_133_1 (I : WI) (L : WL) (a1 : Int32) (a2 : Int32) (a3 : Int32) (a4 : Int32) (a5 : Int32) (a6 : Int32) (a7 : Int64) : Option ((Int32 × Int32 × Int32 × Int32 × WI) ⊕ (Int32 × Int32 × Int32 × Int32 × Int32 × WI)) :=
  (if (p1 (F_X9_findPlan I a7)) = 0 then (F_X9_slanted_319_1 (p2 (F_X9_findPlan I a7)) L a1 a2 a3 a4 a5 a6) else (F_X9_slanted_145_1 (p2 (F_X9_findPlan I a7)) L a1 a2 a3 a4 a5 a6 0))
theorem V_X9_slanted_133_1  {I : WI} {L : WL} {a1 : Int32} {a2 : Int32} {a3 : Int32} {a4 : Int32} {a5 : Int32} {a6 : Int32} {a7 : Int64} {P : ((Int32 × Int32 × Int32 × Int32 × WI) ⊕ (Int32 × Int32 × Int32 × Int32 × Int32 × WI)) → Prop} {t : Tg} (he : ∀ x : (Int32 × Int32 × Int32 × Int32 × WI), P (.inl x) → V (zM x_X9_slanted 5 0 0 t) 325 [(0, .ref 33), (1, .int a1), (2, .int (p1 x)), (3, .int (p1 (p2 x))), (4, .int (p1 (p2 (p2 x)))), (5, .int (p1 (p2 (p2 (p2 x)))))] [] ly0 (p2 (p2 (p2 (p2 x)))) L R0 0 0) (hk : ∀ x : (Int32 × Int32 × Int32 × Int32 × Int32 × WI), P (.inr x) → V (zM x_X9_slanted 5 0 0 t) 52 [(0, .ref 33), (1, .int a1), (2, .int (p1 x)), (3, .int (p1 (p2 x))), (4, .int (p1 (p2 (p2 x)))), (5, .int (p1 (p2 (p2 (p2 x))))), (6, .int (p1 (p2 (p2 (p2 (p2 x))))))] [] ly0 (p2 (p2 (p2 (p2 (p2 x))))) L R0 0 0) : oP P (F_X9_slanted_133_1 I L a1 a2 a3 a4 a5 a6 a7) → V (zM x_X9_slanted 5 0 0 t) 133 [(0, .ref 33), (1, .int a1), (2, .int a2), (3, .int a3), (4, .int a4), (5, .int a5), (6, .int a6), (7, .long a7)] [] ly0 I L R0 0 0 :=
  fun _ =>
  have kq : (oP P (F_X9_slanted_133_1 I L a1 a2 a3 a4 a5 a6 a7)) ∧ True := ⟨by assumption, trivial⟩
  V_aload_n (tat ok_X9_slanted_1 (i := 36) (q := 134) rfl rfl) 0 rfl rfl <|
    V_lload (tat ok_X9_slanted_1 (i := 37) (q := 136) rfl rfl) 7 rfl <|
    V_cv1 (ct_X9_findPlan I L a7 ) mo_X9_findPlan (tat ok_X9_slanted_1 (i := 38) (q := 139) rfl rfl) ml_X9_253 rfl ⟨by decide, _, rfl, rfl⟩ ⟨(Nat.le_of_ble_eq_true rfl), (Nat.le_of_ble_eq_true rfl)⟩ ⟨(Nat.le_of_ble_eq_true rfl), (Nat.le_of_ble_eq_true rfl)⟩ (Nat.le_of_ble_eq_true rfl) <|
    V_if_eq (tat ok_X9_slanted_1 (i := 39) (q := 142) rfl rfl) rfl (fun c6 => V_pick [0, 1, 2, 3, 4, 5, 6] rfl (V_X9_slanted_319_1  he hk (jq (P := oP P) kq (if_pos c6)))) (fun c6 => V_iconst (tat ok_X9_slanted_2 (i := 0) (q := 143) rfl rfl) ic_0 <|
    V_istore (lv' := [(9, .int 0), (0, .ref 33), (1, .int a1), (2, .int a2), (3, .int a3), (4, .int a4), (5, .int a5), (6, .int a6), (7, .long a7)]) (tat ok_X9_slanted_2 (i := 1) (q := 145) rfl rfl) (Nat.le_of_ble_eq_true rfl) rfl <|
    V_pick [1, 2, 3, 4, 5, 6, 7, 0] rfl (V_X9_slanted_145_1 rfl he hk (jq (P := oP P) kq (if_neg c6))))
def F_X9_slanted_84_1 (I : WI) (L : WL) (a1 : Int32) (a2 : Int32) (a3 : Int32) (a4 : Int32) (a5 : Int32) (a6 : Int32) (a7 : Int64) (a9 : Int32) : Option ((Int32 × Int32 × Int32 × Int32 × WI) ⊕ (Int32 × Int32 × Int32 × Int32 × Int32 × WI)) :=
  (frp0 (fun i x => (F_X9_slanted_100_2 I L a1 a2 a3 a4 a5 a6 i x)) (((I 33 0) + (I 33 1)) - 1) (fu a9 (((I 33 0) + (I 33 1)) - 1)) a9 a7).bind (fun q => (F_X9_slanted_133_1 I L a1 a2 a3 a4 a5 a6 (p2 q)))
theorem V_X9_slanted_84_1  {I : WI} {L : WL} {a1 : Int32} {a2 : Int32} {a3 : Int32} {a4 : Int32} {a5 : Int32} {a6 : Int32} {a7 : Int64} {a9 : Int32} {P : ((Int32 × Int32 × Int32 × Int32 × WI) ⊕ (Int32 × Int32 × Int32 × Int32 × Int32 × WI)) → Prop} {t : Tg} (hb9 : bz a9 = a9) (he : ∀ x : (Int32 × Int32 × Int32 × Int32 × WI), P (.inl x) → V (zM x_X9_slanted 5 0 0 t) 325 [(0, .ref 33), (1, .int a1), (2, .int (p1 x)), (3, .int (p1 (p2 x))), (4, .int (p1 (p2 (p2 x)))), (5, .int (p1 (p2 (p2 (p2 x)))))] [] ly0 (p2 (p2 (p2 (p2 x)))) L R0 0 0) (hk : ∀ x : (Int32 × Int32 × Int32 × Int32 × Int32 × WI), P (.inr x) → V (zM x_X9_slanted 5 0 0 t) 52 [(0, .ref 33), (1, .int a1), (2, .int (p1 x)), (3, .int (p1 (p2 x))), (4, .int (p1 (p2 (p2 x)))), (5, .int (p1 (p2 (p2 (p2 x))))), (6, .int (p1 (p2 (p2 (p2 (p2 x))))))] [] ly0 (p2 (p2 (p2 (p2 (p2 x))))) L R0 0 0) (kk : oP P (F_X9_slanted_84_1 I L a1 a2 a3 a4 a5 a6 a7 a9)) : V (zM x_X9_slanted 5 0 0 t) 84 [(0, .ref 33), (1, .int a1), (2, .int a2), (3, .int a3), (4, .int a4), (5, .int a5), (6, .int a6), (7, .long a7), (9, .int a9)] [] ly0 I L R0 0 0 :=
  V_frp0 (fun i x => (F_X9_slanted_100_2 I L a1 a2 a3 a4 a5 a6 i x)) (((I 33 0) + (I 33 1)) - 1) (fun i x => V (zM x_X9_slanted 5 0 0 t) 84 [(0, .ref 33), (1, .int a1), (2, .int a2), (3, .int a3), (4, .int a4), (5, .int a5), (6, .int a6), (7, .long x), (9, .int i)] [] ly0 I L R0 0 0) (fun i x => oP P ((F_X9_slanted_133_1 I L a1 a2 a3 a4 a5 a6 x))) (c := a9) (s := a7) (fun i x kx kb => V_iload (tat ok_X9_slanted_1 (i := 9) (q := 86) rfl rfl) 8 rfl <|
    V_aload_n (tat ok_X9_slanted_1 (i := 10) (q := 87) rfl rfl) 0 rfl rfl <|
    V_getI (tat ok_X9_slanted_1 (i := 11) (q := 90) rfl rfl) fk_X9_74 rfl <|
    V_aload_n (tat ok_X9_slanted_1 (i := 12) (q := 91) rfl rfl) 0 rfl rfl <|
    V_getI (tat ok_X9_slanted_1 (i := 13) (q := 94) rfl rfl) fk_X9_77 rfl <|
    V_iadd (tat ok_X9_slanted_1 (i := 14) (q := 95) rfl rfl) <|
    V_iconst (tat ok_X9_slanted_1 (i := 15) (q := 96) rfl rfl) ic_1 <|
    V_isub (tat ok_X9_slanted_1 (i := 16) (q := 97) rfl rfl) <|
    V_icmp_ge (tat ok_X9_slanted_1 (i := 17) (q := 100) rfl rfl) rfl (fun c0 => V_pick [0, 1, 2, 3, 4, 5, 6, 7] rfl (V_X9_slanted_133_1  he hk (kx c0))) (fun c0 => V_X9_slanted_100_2 (P := (fun x => (fun i x => V (zM x_X9_slanted 5 0 0 t) 84 [(0, .ref 33), (1, .int a1), (2, .int a2), (3, .int a3), (4, .int a4), (5, .int a5), (6, .int a6), (7, .long x), (9, .int i)] [] ly0 I L R0 0 0) (i + 1) x))  (fun _ e => e) (kb c0))) (oP_bind (f := fun q => _) kk)
def F_X9_slanted_52_1 (I : WI) (L : WL) (a1 : Int32) (a2 : Int32) (a3 : Int32) (a4 : Int32) (a5 : Int32) (a6 : Int32) : Option ((Int32 × Int32 × Int32 × Int32 × WI) ⊕ (Int32 × Int32 × Int32 × Int32 × Int32 × WI)) :=
  (if (1 <<< ((((I 33 0) + (I 33 1)) - 1) &&& 31)) ≤ a6 then some (.inl (a2, a3, a4, a5, I)) else (F_X9_slanted_84_1 I L a1 a2 a3 a4 a5 a6 ((L 33 2) ^^^ (L 33 3)) 0))
theorem V_X9_slanted_52_1  {I : WI} {L : WL} {a1 : Int32} {a2 : Int32} {a3 : Int32} {a4 : Int32} {a5 : Int32} {a6 : Int32} {P : ((Int32 × Int32 × Int32 × Int32 × WI) ⊕ (Int32 × Int32 × Int32 × Int32 × Int32 × WI)) → Prop} {t : Tg} (he : ∀ x : (Int32 × Int32 × Int32 × Int32 × WI), P (.inl x) → V (zM x_X9_slanted 5 0 0 t) 325 [(0, .ref 33), (1, .int a1), (2, .int (p1 x)), (3, .int (p1 (p2 x))), (4, .int (p1 (p2 (p2 x)))), (5, .int (p1 (p2 (p2 (p2 x)))))] [] ly0 (p2 (p2 (p2 (p2 x)))) L R0 0 0) (hk : ∀ x : (Int32 × Int32 × Int32 × Int32 × Int32 × WI), P (.inr x) → V (zM x_X9_slanted 5 0 0 t) 52 [(0, .ref 33), (1, .int a1), (2, .int (p1 x)), (3, .int (p1 (p2 x))), (4, .int (p1 (p2 (p2 x)))), (5, .int (p1 (p2 (p2 (p2 x))))), (6, .int (p1 (p2 (p2 (p2 (p2 x))))))] [] ly0 (p2 (p2 (p2 (p2 (p2 x))))) L R0 0 0) : oP P (F_X9_slanted_52_1 I L a1 a2 a3 a4 a5 a6) → V (zM x_X9_slanted 5 0 0 t) 52 [(0, .ref 33), (1, .int a1), (2, .int a2), (3, .int a3), (4, .int a4), (5, .int a5), (6, .int a6)] [] ly0 I L R0 0 0 :=
  fun _ =>
  have kq : (oP P (F_X9_slanted_52_1 I L a1 a2 a3 a4 a5 a6)) ∧ True := ⟨by assumption, trivial⟩
  V_iload (tat ok_X9_slanted_0 (i := 30) (q := 54) rfl rfl) 6 rfl <|
    V_iconst (tat ok_X9_slanted_0 (i := 31) (q := 55) rfl rfl) ic_1 <|
    V_aload_n (tat ok_X9_slanted_0 (i := 32) (q := 56) rfl rfl) 0 rfl rfl <|
    V_getI (tat ok_X9_slanted_0 (i := 33) (q := 59) rfl rfl) fk_X9_74 rfl <|
    V_aload_n (tat ok_X9_slanted_0 (i := 34) (q := 60) rfl rfl) 0 rfl rfl <|
    V_getI (tat ok_X9_slanted_0 (i := 35) (q := 63) rfl rfl) fk_X9_77 rfl <|
    V_iadd (tat ok_X9_slanted_0 (i := 36) (q := 64) rfl rfl) <|
    V_iconst (tat ok_X9_slanted_0 (i := 37) (q := 65) rfl rfl) ic_1 <|
    V_isub (tat ok_X9_slanted_0 (i := 38) (q := 66) rfl rfl) <|
    V_ishl (tat ok_X9_slanted_0 (i := 39) (q := 67) rfl rfl) <|
    V_icmp_ge (tat ok_X9_slanted_1 (i := 0) (q := 70) rfl rfl) rfl (fun c4 => V_pick [0, 1, 2, 3, 4, 5] rfl (he (a2, a3, a4, a5, I) (jq (P := oP P) kq (if_pos c4)))) (fun c4 => V_aload_n (tat ok_X9_slanted_1 (i := 1) (q := 71) rfl rfl) 0 rfl rfl <|
    V_getL (tat ok_X9_slanted_1 (i := 2) (q := 74) rfl rfl) fk_X9_80 rfl <|
    V_aload_n (tat ok_X9_slanted_1 (i := 3) (q := 75) rfl rfl) 0 rfl rfl <|
    V_getL (tat ok_X9_slanted_1 (i := 4) (q := 78) rfl rfl) fk_X9_83 rfl <|
    V_lxor (tat ok_X9_slanted_1 (i := 5) (q := 79) rfl rfl) <|
    V_lstore (lv' := [(7, .long ((L 33 2) ^^^ (L 33 3))), (0, .ref 33), (1, .int a1), (2, .int a2), (3, .int a3), (4, .int a4), (5, .int a5), (6, .int a6)]) (tat ok_X9_slanted_1 (i := 6) (q := 81) rfl rfl) (Nat.le_of_ble_eq_true rfl) rfl <|
    V_iconst (tat ok_X9_slanted_1 (i := 7) (q := 82) rfl rfl) ic_0 <|
    V_istore (lv' := [(9, .int 0), (7, .long ((L 33 2) ^^^ (L 33 3))), (0, .ref 33), (1, .int a1), (2, .int a2), (3, .int a3), (4, .int a4), (5, .int a5), (6, .int a6)]) (tat ok_X9_slanted_1 (i := 8) (q := 84) rfl rfl) (Nat.le_of_ble_eq_true rfl) rfl <|
    V_pick [2, 3, 4, 5, 6, 7, 8, 1, 0] rfl (V_X9_slanted_84_1 rfl he hk (jq (P := oP P) kq (if_neg c4))))
def F_X9_slanted_365 (I : WI) (L : WL) (a1 : Int32) (s0 : Int32) : Option (Int32 × WI) :=
  some (s0, I)
theorem V_X9_slanted_365  {I : WI} {L : WL} {a1 : Int32} {s0 : Int32} {P : (Int32 × WI) → Prop} {t : Tg} (hr : ∀ v, P v → t = (some (.int (p1 v)), ly0, (p2 v), L, R0)) : oP P (F_X9_slanted_365 I L a1 s0) → V (zM x_X9_slanted 5 0 0 t) 365 [(0, .ref 33), (1, .int a1)] [.int s0] ly0 I L R0 0 0 :=
  fun _ =>
  have kq : (oP P (F_X9_slanted_365 I L a1 s0)) ∧ True := ⟨by assumption, trivial⟩
  V_iret (tat ok_X9_slanted_4 (i := 33) (q := 366) rfl rfl) _ rfl (nar_int _) (hr (s0, I) (jq (P := oP P) kq rfl)) ⟨(Nat.le_of_ble_eq_true rfl), (Nat.le_of_ble_eq_true rfl)⟩
def F_X9_slanted_325 (I : WI) (L : WL) (a1 : Int32) (a2 : Int32) (a3 : Int32) (a4 : Int32) (a5 : Int32) : Option (Int32 × WI) :=
  (if a2 = (-4) then (F_X9_slanted_365 I L a1 (-4)) else (if a1 = 0 then (F_X9_slanted_365 I L a1 a2) else (if a1 = 1 then (F_X9_slanted_365 I L a1 a3) else (if a1 = 2 then (F_X9_slanted_365 I L a1 a4) else (F_X9_slanted_365 I L a1 a5)))))
theorem V_X9_slanted_325  {I : WI} {L : WL} {a1 : Int32} {a2 : Int32} {a3 : Int32} {a4 : Int32} {a5 : Int32} {P : (Int32 × WI) → Prop} {t : Tg} (hr : ∀ v, P v → t = (some (.int (p1 v)), ly0, (p2 v), L, R0)) : oP P (F_X9_slanted_325 I L a1 a2 a3 a4 a5) → V (zM x_X9_slanted 5 0 0 t) 325 [(0, .ref 33), (1, .int a1), (2, .int a2), (3, .int a3), (4, .int a4), (5, .int a5)] [] ly0 I L R0 0 0 :=
  fun _ =>
  have kq : (oP P (F_X9_slanted_325 I L a1 a2 a3 a4 a5)) ∧ True := ⟨by assumption, trivial⟩
  V_iload_n (tat ok_X9_slanted_4 (i := 13) (q := 326) rfl rfl) 2 rfl rfl <|
    V_bipush (tat ok_X9_slanted_4 (i := 14) (q := 328) rfl rfl) bp_m4 <|
    V_icmp_ne (tat ok_X9_slanted_4 (i := 15) (q := 331) rfl rfl) rfl (fun c15 => V_iload_n (tat ok_X9_slanted_4 (i := 18) (q := 337) rfl rfl) 1 rfl rfl <|
    V_if_ne (tat ok_X9_slanted_4 (i := 19) (q := 340) rfl rfl) rfl (fun c16 => V_iload_n (tat ok_X9_slanted_4 (i := 22) (q := 345) rfl rfl) 1 rfl rfl <|
    V_iconst (tat ok_X9_slanted_4 (i := 23) (q := 346) rfl rfl) ic_1 <|
    V_icmp_ne (tat ok_X9_slanted_4 (i := 24) (q := 349) rfl rfl) rfl (fun c17 => V_iload_n (tat ok_X9_slanted_4 (i := 27) (q := 354) rfl rfl) 1 rfl rfl <|
    V_iconst (tat ok_X9_slanted_4 (i := 28) (q := 355) rfl rfl) ic_2 <|
    V_icmp_ne (tat ok_X9_slanted_4 (i := 29) (q := 358) rfl rfl) rfl (fun c18 => V_iload (tat ok_X9_slanted_4 (i := 32) (q := 365) rfl rfl) 5 rfl <|
    V_pick [0, 1] rfl (V_X9_slanted_365  hr (jq (P := oP P) kq (Eq.trans (if_neg c15) (Eq.trans (if_neg c16) (Eq.trans (if_neg c17) (if_neg c18))))))) (fun c18 => V_iload (tat ok_X9_slanted_4 (i := 30) (q := 360) rfl rfl) 4 rfl <|
    V_goto (tat ok_X9_slanted_4 (i := 31) (q := 363) rfl rfl) rfl <|
    V_pick [0, 1] rfl (V_X9_slanted_365  hr (jq (P := oP P) kq (Eq.trans (if_neg c15) (Eq.trans (if_neg c16) (Eq.trans (if_neg c17) (if_pos c18)))))))) (fun c17 => V_iload_n (tat ok_X9_slanted_4 (i := 25) (q := 350) rfl rfl) 3 rfl rfl <|
    V_goto (tat ok_X9_slanted_4 (i := 26) (q := 353) rfl rfl) rfl <|
    V_pick [0, 1] rfl (V_X9_slanted_365  hr (jq (P := oP P) kq (Eq.trans (if_neg c15) (Eq.trans (if_neg c16) (if_pos c17))))))) (fun c16 => V_iload_n (tat ok_X9_slanted_4 (i := 20) (q := 341) rfl rfl) 2 rfl rfl <|
    V_goto (tat ok_X9_slanted_4 (i := 21) (q := 344) rfl rfl) rfl <|
    V_pick [0, 1] rfl (V_X9_slanted_365  hr (jq (P := oP P) kq (Eq.trans (if_neg c15) (if_pos c16)))))) (fun c15 => V_bipush (tat ok_X9_slanted_4 (i := 16) (q := 333) rfl rfl) bp_m4 <|
    V_goto (tat ok_X9_slanted_4 (i := 17) (q := 336) rfl rfl) rfl <|
    V_pick [0, 1] rfl (V_X9_slanted_365  hr (jq (P := oP P) kq (if_pos c15))))
def F_X9_slanted_52 (I : WI) (L : WL) (a1 : Int32) (a2 : Int32) (a3 : Int32) (a4 : Int32) (a5 : Int32) (a6 : Int32) : Option (Int32 × WI) :=
  (lpp (fun x => (F_X9_slanted_52_1 (p2 (p2 (p2 (p2 (p2 x))))) L a1 (p1 x) (p1 (p2 x)) (p1 (p2 (p2 x))) (p1 (p2 (p2 (p2 x)))) (p1 (p2 (p2 (p2 (p2 x))))))) 4294967296 (a2, a3, a4, a5, a6, I)).bind (fun q => (F_X9_slanted_325 (p2 (p2 (p2 (p2 q)))) L a1 (p1 q) (p1 (p2 q)) (p1 (p2 (p2 q))) (p1 (p2 (p2 (p2 q))))))
theorem V_X9_slanted_52  {I : WI} {L : WL} {a1 : Int32} {a2 : Int32} {a3 : Int32} {a4 : Int32} {a5 : Int32} {a6 : Int32} {P : (Int32 × WI) → Prop} {t : Tg} (hb3 : bz a3 = a3) (hb4 : bz a4 = a4) (hb5 : bz a5 = a5) (hb6 : bz a6 = a6) (hr : ∀ v, P v → t = (some (.int (p1 v)), ly0, (p2 v), L, R0)) (kk : oP P (F_X9_slanted_52 I L a1 a2 a3 a4 a5 a6)) : V (zM x_X9_slanted 5 0 0 t) 52 [(0, .ref 33), (1, .int a1), (2, .int a2), (3, .int a3), (4, .int a4), (5, .int a5), (6, .int a6)] [] ly0 I L R0 0 0 :=
  V_lpp (fun x => (F_X9_slanted_52_1 (p2 (p2 (p2 (p2 (p2 x))))) L a1 (p1 x) (p1 (p2 x)) (p1 (p2 (p2 x))) (p1 (p2 (p2 (p2 x)))) (p1 (p2 (p2 (p2 (p2 x))))))) (fun x => V (zM x_X9_slanted 5 0 0 t) 52 [(0, .ref 33), (1, .int a1), (2, .int (p1 x)), (3, .int (p1 (p2 x))), (4, .int (p1 (p2 (p2 x)))), (5, .int (p1 (p2 (p2 (p2 x))))), (6, .int (p1 (p2 (p2 (p2 (p2 x))))))] [] ly0 (p2 (p2 (p2 (p2 (p2 x))))) L R0 0 0) (fun x => oP P ((F_X9_slanted_325 (p2 (p2 (p2 (p2 x)))) L a1 (p1 x) (p1 (p2 x)) (p1 (p2 (p2 x))) (p1 (p2 (p2 (p2 x))))))) (s := (a2, a3, a4, a5, a6, I)) (fun x e0 => V_X9_slanted_52_1 (P := Sum.elim (fun x => oP P ((F_X9_slanted_325 (p2 (p2 (p2 (p2 x)))) L a1 (p1 x) (p1 (p2 x)) (p1 (p2 (p2 x))) (p1 (p2 (p2 (p2 x))))))) (fun x => V (zM x_X9_slanted 5 0 0 t) 52 [(0, .ref 33), (1, .int a1), (2, .int (p1 x)), (3, .int (p1 (p2 x))), (4, .int (p1 (p2 (p2 x)))), (5, .int (p1 (p2 (p2 (p2 x))))), (6, .int (p1 (p2 (p2 (p2 (p2 x))))))] [] ly0 (p2 (p2 (p2 (p2 (p2 x))))) L R0 0 0))  (fun x e => V_X9_slanted_325  hr e) (fun _ e => e) e0) (oP_bind (f := fun q => _) kk)
def F_X9_slanted (I : WI) (L : WL) (a1 : Int32) : Option (Int32 × WI) :=
  (if (F_X9_in (Int32.toInt64 a1) 0 3) = 0 then some ((-1), I) else (if (bz (I 33 4)) = 0 then (F_X9_slanted_35 I L a1) else (if ((I 33 0) + (I 33 1)) ≤ 10 then (F_X9_slanted_52 I L a1 (-4) 0 0 0 0) else (F_X9_slanted_35 I L a1))))
theorem V_X9_slanted  {I : WI} {L : WL} {a1 : Int32}  {P : (Int32 × WI) → Prop} {t : Tg} (hr : ∀ v, P v → t = (some (.int (p1 v)), ly0, (p2 v), L, R0)) : oP P (F_X9_slanted I L a1) → V (zM x_X9_slanted 5 0 0 t) 0 [(0, .ref 33), (1, .int a1)] [] ly0 I L R0 0 0 :=
  fun _ =>
  have kq : (oP P (F_X9_slanted I L a1)) ∧ True := ⟨by assumption, trivial⟩
  V_iload_n (tat ok_X9_slanted_0 (i := 0) (q := 1) rfl rfl) 1 rfl rfl <|
    V_i2l (tat ok_X9_slanted_0 (i := 1) (q := 2) rfl rfl) <|
    V_lconst (v := 0) (tat ok_X9_slanted_0 (i := 2) (q := 3) rfl rfl) rfl <|
    V_ldc2 (tat ok_X9_slanted_0 (i := 3) (q := 6) rfl rfl) (gw_in kl_X9_251 rfl) <|
    V_cs3 (ct_X9_in I L (Int32.toInt64 a1) 0 3 ) mo_X9_in (tat ok_X9_slanted_0 (i := 4) (q := 9) rfl rfl) ml_X9_97 ⟨(Nat.le_of_ble_eq_true rfl), (Nat.le_of_ble_eq_true rfl)⟩ ⟨(Nat.le_of_ble_eq_true rfl), (Nat.le_of_ble_eq_true rfl)⟩ (Nat.le_of_ble_eq_true rfl) <|
    V_if_ne (tat ok_X9_slanted_0 (i := 5) (q := 12) rfl rfl) rfl (fun c1 => V_aload_n (tat ok_X9_slanted_0 (i := 8) (q := 15) rfl rfl) 0 rfl rfl <|
    V_getZ (tat ok_X9_slanted_0 (i := 9) (q := 18) rfl rfl) fk_X9_86 rfl <|
    V_if_eq (tat ok_X9_slanted_0 (i := 10) (q := 21) rfl rfl) rfl (fun c2 => V_X9_slanted_35  hr (jq (P := oP P) kq (Eq.trans (if_neg c1) (if_pos c2)))) (fun c2 => V_aload_n (tat ok_X9_slanted_0 (i := 11) (q := 22) rfl rfl) 0 rfl rfl <|
    V_getI (tat ok_X9_slanted_0 (i := 12) (q := 25) rfl rfl) fk_X9_74 rfl <|
    V_aload_n (tat ok_X9_slanted_0 (i := 13) (q := 26) rfl rfl) 0 rfl rfl <|
    V_getI (tat ok_X9_slanted_0 (i := 14) (q := 29) rfl rfl) fk_X9_77 rfl <|
    V_iadd (tat ok_X9_slanted_0 (i := 15) (q := 30) rfl rfl) <|
    V_bipush (tat ok_X9_slanted_0 (i := 16) (q := 32) rfl rfl) bp_10 <|
    V_icmp_le (tat ok_X9_slanted_0 (i := 17) (q := 35) rfl rfl) rfl (fun c3 => V_bipush (tat ok_X9_slanted_0 (i := 20) (q := 40) rfl rfl) bp_m4 <|
    V_istore_n (lv' := [(2, .int (-4)), (0, .ref 33), (1, .int a1)]) (tat ok_X9_slanted_0 (i := 21) (q := 41) rfl rfl) rfl (Nat.le_of_ble_eq_true rfl) rfl <|
    V_iconst (tat ok_X9_slanted_0 (i := 22) (q := 42) rfl rfl) ic_0 <|
    V_istore_n (lv' := [(3, .int 0), (2, .int (-4)), (0, .ref 33), (1, .int a1)]) (tat ok_X9_slanted_0 (i := 23) (q := 43) rfl rfl) rfl (Nat.le_of_ble_eq_true rfl) rfl <|
    V_iconst (tat ok_X9_slanted_0 (i := 24) (q := 44) rfl rfl) ic_0 <|
    V_istore (lv' := [(4, .int 0), (3, .int 0), (2, .int (-4)), (0, .ref 33), (1, .int a1)]) (tat ok_X9_slanted_0 (i := 25) (q := 46) rfl rfl) (Nat.le_of_ble_eq_true rfl) rfl <|
    V_iconst (tat ok_X9_slanted_0 (i := 26) (q := 47) rfl rfl) ic_0 <|
    V_istore (lv' := [(5, .int 0), (4, .int 0), (3, .int 0), (2, .int (-4)), (0, .ref 33), (1, .int a1)]) (tat ok_X9_slanted_0 (i := 27) (q := 49) rfl rfl) (Nat.le_of_ble_eq_true rfl) rfl <|
    V_iconst (tat ok_X9_slanted_0 (i := 28) (q := 50) rfl rfl) ic_0 <|
    V_istore (lv' := [(6, .int 0), (5, .int 0), (4, .int 0), (3, .int 0), (2, .int (-4)), (0, .ref 33), (1, .int a1)]) (tat ok_X9_slanted_0 (i := 29) (q := 52) rfl rfl) (Nat.le_of_ble_eq_true rfl) rfl <|
    V_pick [5, 6, 4, 3, 2, 1, 0] rfl (V_X9_slanted_52 rfl rfl rfl rfl hr (jq (P := oP P) kq (Eq.trans (if_neg c1) (Eq.trans (if_neg c2) (if_pos c3)))))) (fun c3 => V_X9_slanted_35  hr (jq (P := oP P) kq (Eq.trans (if_neg c1) (Eq.trans (if_neg c2) (if_neg c3))))))) (fun c1 => V_iconst (tat ok_X9_slanted_0 (i := 6) (q := 13) rfl rfl) ic_m1 <|
    V_iret (tat ok_X9_slanted_0 (i := 7) (q := 14) rfl rfl) _ rfl (nar_int _) (hr ((-1), I) (jq (P := oP P) kq (if_pos c1))) ⟨(Nat.le_of_ble_eq_true rfl), (Nat.le_of_ble_eq_true rfl)⟩)
theorem ct_X9_slanted  (I : WI) (L : WL) (a1 : Int32)  {v : (Int32 × WI)} (h : (F_X9_slanted I L a1) = some v) : Ct x_X9_slanted 5 [.ref 33, .int a1] ly0 I L R0 0 0 (some (.int (p1 v)), ly0, (p2 v), L, R0) :=
  Ct_of_V mo_X9_slanted.1 (Nat.le_of_ble_eq_true rfl) (V_X9_slanted (P := fun x => x = v)  (fun _ e => by rw [e]) (by rw [h]; exact rfl))
def F_X9_isNew_54_1 (L : WL) (a1 : Int64) (a3 : Int64) (a5 : Int32) : Option (((Int32 × WL) ⊕ Unit) ⊕ (Int64 × Int32)) :=
  some (.inr (a3, (a5 + (-1))))
theorem V_X9_isNew_54_1  {I : WI} {L : WL} {a1 : Int64} {a3 : Int64} {a5 : Int32} {P : (((Int32 × WL) ⊕ Unit) ⊕ (Int64 × Int32)) → Prop} {t : Tg} (hr : ∀ v, P (.inl (.inl v)) → t = (some (.int (p1 v)), ly0, I, (p2 v), R0)) (he : ∀ x : Unit, P (.inl (.inr x)) → V (zM x_X9_isNew 1 0 0 t) 60 [(0, .ref 33), (1, .long a1)] [] ly0 I L R0 0 0) (hk : ∀ x : (Int64 × Int32), P (.inr x) → V (zM x_X9_isNew 1 0 0 t) 6 [(0, .ref 33), (1, .long a1), (3, .long (p1 x)), (5, .int (p2 x))] [] ly0 I L R0 0 0) : oP P (F_X9_isNew_54_1 L a1 a3 a5) → V (zM x_X9_isNew 1 0 0 t) 54 [(0, .ref 33), (1, .long a1), (3, .long a3), (5, .int a5)] [] ly0 I L R0 0 0 :=
  fun _ =>
  have kq : (oP P (F_X9_isNew_54_1 L a1 a3 a5)) ∧ True := ⟨by assumption, trivial⟩
  V_iinc (v := (a5 + (-1))) (lv' := [(5, .int (a5 + (-1))), (0, .ref 33), (1, .long a1), (3, .long a3)]) (tat ok_X9_isNew_0 (i := 35) (q := 57) rfl rfl) 3 rfl (ia ic_m1) (Nat.le_of_ble_eq_true rfl) rfl <|
    V_goto (tat ok_X9_isNew_0 (i := 36) (q := 60) rfl rfl) rfl <|
    V_pick [1, 2, 3, 0] rfl (hk (a3, (a5 + (-1))) (jq (P := oP P) kq rfl))
def F_X9_isNew_6_1 (L : WL) (a1 : Int64) (a3 : Int64) (a5 : Int32) : Option (((Int32 × WL) ⊕ Unit) ⊕ (Int64 × Int32)) :=
  (if a5 < 0 then some (.inl (.inr ())) else (if (lg_cmp ((lsr a3 a5) &&& 1) 1) = 0 then (if a5 < 0 ∨ 64 ≤ Int32.toNatClampNeg a5 then none else (if (lg_cmp (L 40 (Int32.toNatClampNeg a5)) 0) = 0 then (if a5 < 0 ∨ 64 ≤ Int32.toNatClampNeg a5 then none else some (.inl (.inl (1, (u2 L 40 (Int32.toNatClampNeg a5) a3))))) else (if a5 < 0 ∨ 64 ≤ Int32.toNatClampNeg a5 then none else (F_X9_isNew_54_1 L a1 (a3 ^^^ (L 40 (Int32.toNatClampNeg a5))) a5)))) else (F_X9_isNew_54_1 L a1 a3 a5)))
theorem V_X9_isNew_6_1  {I : WI} {L : WL} {a1 : Int64} {a3 : Int64} {a5 : Int32} {P : (((Int32 × WL) ⊕ Unit) ⊕ (Int64 × Int32)) → Prop} {t : Tg} (hr : ∀ v, P (.inl (.inl v)) → t = (some (.int (p1 v)), ly0, I, (p2 v), R0)) (he : ∀ x : Unit, P (.inl (.inr x)) → V (zM x_X9_isNew 1 0 0 t) 60 [(0, .ref 33), (1, .long a1)] [] ly0 I L R0 0 0) (hk : ∀ x : (Int64 × Int32), P (.inr x) → V (zM x_X9_isNew 1 0 0 t) 6 [(0, .ref 33), (1, .long a1), (3, .long (p1 x)), (5, .int (p2 x))] [] ly0 I L R0 0 0) : oP P (F_X9_isNew_6_1 L a1 a3 a5) → V (zM x_X9_isNew 1 0 0 t) 6 [(0, .ref 33), (1, .long a1), (3, .long a3), (5, .int a5)] [] ly0 I L R0 0 0 :=
  fun _ =>
  have kq : (oP P (F_X9_isNew_6_1 L a1 a3 a5)) ∧ True := ⟨by assumption, trivial⟩
  V_iload (tat ok_X9_isNew_0 (i := 4) (q := 8) rfl rfl) 3 rfl <|
    V_if_lt (tat ok_X9_isNew_0 (i := 5) (q := 11) rfl rfl) rfl (fun c1 => V_pick [0, 1] rfl (he () (jq (P := oP P) kq (if_pos c1)))) (fun c1 => V_lload_n (tat ok_X9_isNew_0 (i := 6) (q := 12) rfl rfl) 2 rfl rfl <|
    V_iload (tat ok_X9_isNew_0 (i := 7) (q := 14) rfl rfl) 3 rfl <|
    V_lshr (tat ok_X9_isNew_0 (i := 8) (q := 15) rfl rfl) <|
    V_lconst (v := 1) (tat ok_X9_isNew_0 (i := 9) (q := 16) rfl rfl) rfl <|
    V_land (tat ok_X9_isNew_0 (i := 10) (q := 17) rfl rfl) <|
    V_lconst (v := 1) (tat ok_X9_isNew_0 (i := 11) (q := 18) rfl rfl) rfl <|
    V_lcmp (tat ok_X9_isNew_0 (i := 12) (q := 19) rfl rfl) <|
    V_if_ne (tat ok_X9_isNew_0 (i := 13) (q := 22) rfl rfl) rfl (fun c2 => V_X9_isNew_54_1  hr he hk (jq (P := oP P) kq (Eq.trans (if_neg c1) (if_neg c2)))) (fun c2 => V_aload_n (tat ok_X9_isNew_0 (i := 14) (q := 23) rfl rfl) 0 rfl rfl <|
    V_getR (tat ok_X9_isNew_0 (i := 15) (q := 26) rfl rfl) fk_X9_29 rfl rfl <|
    V_iload (tat ok_X9_isNew_0 (i := 16) (q := 28) rfl rfl) 3 rfl <|
    (if c3 : a5 < 0 ∨ 64 ≤ Int32.toNatClampNeg a5 then ((jq (P := oP P) kq (Eq.trans (if_neg c1) (Eq.trans (if_pos c2) (if_pos c3))))).elim else V_lald (tat ok_X9_isNew_0 (i := 17) (q := 29) rfl rfl) rfl c3 <|
    V_lconst (v := 0) (tat ok_X9_isNew_0 (i := 18) (q := 30) rfl rfl) rfl <|
    V_lcmp (tat ok_X9_isNew_0 (i := 19) (q := 31) rfl rfl) <|
    V_if_ne (tat ok_X9_isNew_0 (i := 20) (q := 34) rfl rfl) rfl (fun c4 => V_lload_n (tat ok_X9_isNew_0 (i := 28) (q := 45) rfl rfl) 2 rfl rfl <|
    V_aload_n (tat ok_X9_isNew_0 (i := 29) (q := 46) rfl rfl) 0 rfl rfl <|
    V_getR (tat ok_X9_isNew_0 (i := 30) (q := 49) rfl rfl) fk_X9_29 rfl rfl <|
    V_iload (tat ok_X9_isNew_0 (i := 31) (q := 51) rfl rfl) 3 rfl <|
    (if c6 : a5 < 0 ∨ 64 ≤ Int32.toNatClampNeg a5 then ((jq (P := oP P) kq (Eq.trans (if_neg c1) (Eq.trans (if_pos c2) (Eq.trans (if_neg c3) (Eq.trans (if_neg c4) (if_pos c6))))))).elim else V_lald (tat ok_X9_isNew_0 (i := 32) (q := 52) rfl rfl) rfl c6 <|
    V_lxor (tat ok_X9_isNew_0 (i := 33) (q := 53) rfl rfl) <|
    V_lstore_n (lv' := [(3, .long (a3 ^^^ (L 40 (Int32.toNatClampNeg a5)))), (0, .ref 33), (1, .long a1), (5, .int a5)]) (tat ok_X9_isNew_0 (i := 34) (q := 54) rfl rfl) rfl (Nat.le_of_ble_eq_true rfl) rfl <|
    V_pick [1, 2, 0, 3] rfl (V_X9_isNew_54_1  hr he hk (jq (P := oP P) kq (Eq.trans (if_neg c1) (Eq.trans (if_pos c2) (Eq.trans (if_neg c3) (Eq.trans (if_neg c4) (if_neg c6))))))))) (fun c4 => V_aload_n (tat ok_X9_isNew_0 (i := 21) (q := 35) rfl rfl) 0 rfl rfl <|
    V_getR (tat ok_X9_isNew_0 (i := 22) (q := 38) rfl rfl) fk_X9_29 rfl rfl <|
    V_iload (tat ok_X9_isNew_0 (i := 23) (q := 40) rfl rfl) 3 rfl <|
    V_lload_n (tat ok_X9_isNew_0 (i := 24) (q := 41) rfl rfl) 2 rfl rfl <|
    (if c5 : a5 < 0 ∨ 64 ≤ Int32.toNatClampNeg a5 then ((jq (P := oP P) kq (Eq.trans (if_neg c1) (Eq.trans (if_pos c2) (Eq.trans (if_neg c3) (Eq.trans (if_pos c4) (if_pos c5))))))).elim else V_last (tat ok_X9_isNew_0 (i := 25) (q := 42) rfl rfl) rfl c5 <|
    V_iconst (tat ok_X9_isNew_0 (i := 26) (q := 43) rfl rfl) ic_1 <|
    V_iret (tat ok_X9_isNew_0 (i := 27) (q := 44) rfl rfl) _ rfl rfl (hr (1, (u2 L 40 (Int32.toNatClampNeg a5) a3)) (jq (P := oP P) kq (Eq.trans (if_neg c1) (Eq.trans (if_pos c2) (Eq.trans (if_neg c3) (Eq.trans (if_pos c4) (if_neg c5))))))) ⟨(Nat.le_of_ble_eq_true rfl), (Nat.le_of_ble_eq_true rfl)⟩)))))
def F_X9_isNew_60 (L : WL) (a1 : Int64) : Option (Int32 × WL) :=
  some (0, L)
theorem V_X9_isNew_60  {I : WI} {L : WL} {a1 : Int64}  {P : (Int32 × WL) → Prop} {t : Tg} (hr : ∀ v, P v → t = (some (.int (p1 v)), ly0, I, (p2 v), R0)) : oP P (F_X9_isNew_60 L a1) → V (zM x_X9_isNew 1 0 0 t) 60 [(0, .ref 33), (1, .long a1)] [] ly0 I L R0 0 0 :=
  fun _ =>
  have kq : (oP P (F_X9_isNew_60 L a1)) ∧ True := ⟨by assumption, trivial⟩
  V_iconst (tat ok_X9_isNew_0 (i := 37) (q := 61) rfl rfl) ic_0 <|
    V_iret (tat ok_X9_isNew_0 (i := 38) (q := 62) rfl rfl) _ rfl rfl (hr (0, L) (jq (P := oP P) kq rfl)) ⟨(Nat.le_of_ble_eq_true rfl), (Nat.le_of_ble_eq_true rfl)⟩
def F_X9_isNew_6 (L : WL) (a1 : Int64) (a3 : Int64) (a5 : Int32) : Option (Int32 × WL) :=
  (lpp (fun x => (F_X9_isNew_6_1 L a1 (p1 x) (p2 x))) 4294967296 (a3, a5)).bind (Sum.elim (fun r => some (r)) (fun q => (F_X9_isNew_60 L a1)))
theorem V_X9_isNew_6  {I : WI} {L : WL} {a1 : Int64} {a3 : Int64} {a5 : Int32} {P : (Int32 × WL) → Prop} {t : Tg} (hr : ∀ v, P v → t = (some (.int (p1 v)), ly0, I, (p2 v), R0)) (kk : oP P (F_X9_isNew_6 L a1 a3 a5)) : V (zM x_X9_isNew 1 0 0 t) 6 [(0, .ref 33), (1, .long a1), (3, .long a3), (5, .int a5)] [] ly0 I L R0 0 0 :=
  V_lpp (fun x => (F_X9_isNew_6_1 L a1 (p1 x) (p2 x))) (fun x => V (zM x_X9_isNew 1 0 0 t) 6 [(0, .ref 33), (1, .long a1), (3, .long (p1 x)), (5, .int (p2 x))] [] ly0 I L R0 0 0) (Sum.elim (fun r => P (r)) (fun x => oP P ((F_X9_isNew_60 L a1)))) (s := (a3, a5)) (fun x e0 => V_X9_isNew_6_1 (P := Sum.elim (Sum.elim (fun r => P (r)) (fun x => oP P ((F_X9_isNew_60 L a1)))) (fun x => V (zM x_X9_isNew 1 0 0 t) 6 [(0, .ref 33), (1, .long a1), (3, .long (p1 x)), (5, .int (p2 x))] [] ly0 I L R0 0 0))  (fun v e => hr v e) (fun x e => V_X9_isNew_60  hr e) (fun _ e => e) e0) (oP_sum kk)
def F_X9_isNew (L : WL) (a1 : Int64) : Option (Int32 × WL) :=
  (F_X9_isNew_6 L a1 a1 63)
theorem V_X9_isNew  {I : WI} {L : WL} {a1 : Int64}  {P : (Int32 × WL) → Prop} {t : Tg} (hr : ∀ v, P v → t = (some (.int (p1 v)), ly0, I, (p2 v), R0)) : oP P (F_X9_isNew L a1) → V (zM x_X9_isNew 1 0 0 t) 0 [(0, .ref 33), (1, .long a1)] [] ly0 I L R0 0 0 :=
  fun _ =>
  have kq : (oP P (F_X9_isNew L a1)) ∧ True := ⟨by assumption, trivial⟩
  V_lload_n (tat ok_X9_isNew_0 (i := 0) (q := 1) rfl rfl) 1 rfl rfl <|
    V_lstore_n (lv' := [(3, .long a1), (0, .ref 33), (1, .long a1)]) (tat ok_X9_isNew_0 (i := 1) (q := 2) rfl rfl) rfl (Nat.le_of_ble_eq_true rfl) rfl <|
    V_bipush (tat ok_X9_isNew_0 (i := 2) (q := 4) rfl rfl) bp_63 <|
    V_istore (lv' := [(5, .int 63), (3, .long a1), (0, .ref 33), (1, .long a1)]) (tat ok_X9_isNew_0 (i := 3) (q := 6) rfl rfl) (Nat.le_of_ble_eq_true rfl) rfl <|
    V_pick [2, 3, 1, 0] rfl (V_X9_isNew_6  hr (jq (P := oP P) kq rfl))
theorem ct_X9_isNew  (I : WI) (L : WL) (a1 : Int64)  {v : (Int32 × WL)} (h : (F_X9_isNew L a1) = some v) : Ct x_X9_isNew 1 [.ref 33, .long a1] ly0 I L R0 0 0 (some (.int (p1 v)), ly0, I, (p2 v), R0) :=
  Ct_of_V mo_X9_isNew.1 (Nat.le_of_ble_eq_true rfl) (V_X9_isNew (P := fun x => x = v)  (fun _ e => by rw [e]) (by rw [h]; exact rfl))
def F_X9_power_20_1 (I : WI) (L : WL) (a1 : Int32) (a2 : Int32) : Option WL :=
  (if a2 < 0 ∨ 64 ≤ Int32.toNatClampNeg a2 then none else some (u2 L 40 (Int32.toNatClampNeg a2) 0))
theorem V_X9_power_20_1  {I : WI} {L : WL} {a1 : Int32} {a2 : Int32}  {P : WL → Prop} {t : Tg} (hk : ∀ x : WL, P x → V (zM x_X9_power 4 0 0 t) 14 [(0, .ref 33), (1, .int a1), (2, .int (a2 + 1))] [] ly0 I x R0 0 0) : oP P (F_X9_power_20_1 I L a1 a2) → V (zM x_X9_power 4 0 0 t) 20 [(0, .ref 33), (1, .int a1), (2, .int a2)] [] ly0 I L R0 0 0 :=
  fun _ =>
  have kq : (oP P (F_X9_power_20_1 I L a1 a2)) ∧ True := ⟨by assumption, trivial⟩
  V_aload_n (tat ok_X9_power_0 (i := 13) (q := 21) rfl rfl) 0 rfl rfl <|
    V_getR (tat ok_X9_power_0 (i := 14) (q := 24) rfl rfl) fk_X9_29 rfl rfl <|
    V_iload_n (tat ok_X9_power_0 (i := 15) (q := 25) rfl rfl) 2 rfl rfl <|
    V_lconst (v := 0) (tat ok_X9_power_0 (i := 16) (q := 26) rfl rfl) rfl <|
    (if c2 : a2 < 0 ∨ 64 ≤ Int32.toNatClampNeg a2 then ((jq (P := oP P) kq (if_pos c2))).elim else V_last (tat ok_X9_power_0 (i := 17) (q := 27) rfl rfl) rfl c2 <|
    V_iinc (v := (a2 + 1)) (lv' := [(2, .int (a2 + 1)), (0, .ref 33), (1, .int a1)]) (tat ok_X9_power_0 (i := 18) (q := 30) rfl rfl) 2 rfl (ia ic_1) (Nat.le_of_ble_eq_true rfl) rfl <|
    V_goto (tat ok_X9_power_0 (i := 19) (q := 33) rfl rfl) rfl <|
    V_pick [1, 2, 0] rfl (hk (u2 L 40 (Int32.toNatClampNeg a2) 0) (jq (P := oP P) kq (if_neg c2))))
def F_X9_power_47_3 (I : WI) (L : WL) (a1 : Int32) (a3 : Int32) (a2 : Int32) (a4 : Int32) : Option ((Int32 × WL) ⊕ (Int32 × Int32 × WL)) :=
  (Option.bind (F_X9_isAct I a3 a4) (fun v4 => (if v4 = 0 then some (.inl (a2, L)) else (Option.bind (F_X9_isNew L (F_X9_actSet I a3 a4)) (fun v6 => some (.inr ((a2 + (F_X9_flag (p1 v6))), (a4 + 1), (p2 v6))))))))
theorem V_X9_power_47_3  {I : WI} {L : WL} {a1 : Int32} {a3 : Int32} {a2 : Int32} {a4 : Int32} {P : ((Int32 × WL) ⊕ (Int32 × Int32 × WL)) → Prop} {t : Tg} (he : ∀ x : (Int32 × WL), P (.inl x) → V (zM x_X9_power 4 0 0 t) 80 [(0, .ref 33), (1, .int a1), (2, .int (p1 x)), (3, .int a3)] [] ly0 I (p2 x) R0 0 0) (hk : ∀ x : (Int32 × Int32 × WL), P (.inr x) → V (zM x_X9_power 4 0 0 t) 47 [(0, .ref 33), (1, .int a1), (2, .int (p1 x)), (3, .int a3), (4, .int (p1 (p2 x)))] [] ly0 I (p2 (p2 x)) R0 0 0) : oP P (F_X9_power_47_3 I L a1 a3 a2 a4) → V (zM x_X9_power 4 0 0 t) 47 [(0, .ref 33), (1, .int a1), (2, .int a2), (3, .int a3), (4, .int a4)] [] ly0 I L R0 0 0 :=
  fun _ =>
  have kq : (oP P (F_X9_power_47_3 I L a1 a3 a2 a4)) ∧ True := ⟨by assumption, trivial⟩
  V_aload_n (tat ok_X9_power_0 (i := 31) (q := 48) rfl rfl) 0 rfl rfl <|
    V_iload_n (tat ok_X9_power_0 (i := 32) (q := 49) rfl rfl) 3 rfl rfl <|
    V_iload (tat ok_X9_power_0 (i := 33) (q := 51) rfl rfl) 4 rfl <|
    oP_case (jq (P := oP P) kq rfl) (fun v4 e4 _ => V_cv2 (ct_X9_isAct I L a3 a4  e4) mo_X9_isAct (tat ok_X9_power_0 (i := 34) (q := 54) rfl rfl) ml_X9_214 rfl ⟨by decide, _, rfl, rfl⟩ ⟨(Nat.le_of_ble_eq_true rfl), (Nat.le_of_ble_eq_true rfl)⟩ ⟨(Nat.le_of_ble_eq_true rfl), (Nat.le_of_ble_eq_true rfl)⟩ (Nat.le_of_ble_eq_true rfl) <|
    V_if_eq (tat ok_X9_power_0 (i := 35) (q := 57) rfl rfl) rfl (fun c5 => V_pick [0, 1, 2, 3] rfl (he (a2, L) (jq (P := oP P) kq (Eq.trans (ob e4) (if_pos c5))))) (fun c5 => V_iload_n (tat ok_X9_power_0 (i := 36) (q := 58) rfl rfl) 2 rfl rfl <|
    V_aload_n (tat ok_X9_power_0 (i := 37) (q := 59) rfl rfl) 0 rfl rfl <|
    V_aload_n (tat ok_X9_power_0 (i := 38) (q := 60) rfl rfl) 0 rfl rfl <|
    V_iload_n (tat ok_X9_power_0 (i := 39) (q := 61) rfl rfl) 3 rfl rfl <|
    V_iload (tat ok_X9_power_1 (i := 0) (q := 63) rfl rfl) 4 rfl <|
    V_cv2 (ct_X9_actSet I L a3 a4 ) mo_X9_actSet (tat ok_X9_power_1 (i := 1) (q := 66) rfl rfl) ml_X9_217 rfl ⟨by decide, _, rfl, rfl⟩ ⟨(Nat.le_of_ble_eq_true rfl), (Nat.le_of_ble_eq_true rfl)⟩ ⟨(Nat.le_of_ble_eq_true rfl), (Nat.le_of_ble_eq_true rfl)⟩ (Nat.le_of_ble_eq_true rfl) <|
    oP_case (jq (P := oP P) kq (Eq.trans (ob e4) (if_neg c5))) (fun v6 e6 _ => V_cv1 (ct_X9_isNew I L (F_X9_actSet I a3 a4)  e6) mo_X9_isNew (tat ok_X9_power_1 (i := 2) (q := 69) rfl rfl) ml_X9_284 rfl ⟨by decide, _, rfl, rfl⟩ ⟨(Nat.le_of_ble_eq_true rfl), (Nat.le_of_ble_eq_true rfl)⟩ ⟨(Nat.le_of_ble_eq_true rfl), (Nat.le_of_ble_eq_true rfl)⟩ (Nat.le_of_ble_eq_true rfl) <|
    V_cs1 (ct_X9_flag I (p2 v6) (p1 v6) ) mo_X9_flag (tat ok_X9_power_1 (i := 3) (q := 72) rfl rfl) ml_X9_200 ⟨(Nat.le_of_ble_eq_true rfl), (Nat.le_of_ble_eq_true rfl)⟩ ⟨(Nat.le_of_ble_eq_true rfl), (Nat.le_of_ble_eq_true rfl)⟩ (Nat.le_of_ble_eq_true rfl) <|
    V_iadd (tat ok_X9_power_1 (i := 4) (q := 73) rfl rfl) <|
    V_istore_n (lv' := [(2, .int (a2 + (F_X9_flag (p1 v6)))), (0, .ref 33), (1, .int a1), (3, .int a3), (4, .int a4)]) (tat ok_X9_power_1 (i := 5) (q := 74) rfl rfl) rfl (Nat.le_of_ble_eq_true rfl) rfl <|
    V_iinc (v := (a4 + 1)) (lv' := [(4, .int (a4 + 1)), (2, .int (a2 + (F_X9_flag (p1 v6)))), (0, .ref 33), (1, .int a1), (3, .int a3)]) (tat ok_X9_power_1 (i := 6) (q := 77) rfl rfl) 4 rfl (ia ic_1) (Nat.le_of_ble_eq_true rfl) rfl <|
    V_goto (tat ok_X9_power_1 (i := 7) (q := 80) rfl rfl) rfl <|
    V_pick [2, 3, 1, 4, 0] rfl (hk ((a2 + (F_X9_flag (p1 v6))), (a4 + 1), (p2 v6)) (jq (P := oP P) kq (Eq.trans (ob e4) (Eq.trans (if_neg c5) (ob e6))))))))
def F_X9_power_80_2 (I : WI) (L : WL) (a1 : Int32) (a2 : Int32) (a3 : Int32) : Option ((Int32 × WL) ⊕ (Int32 × Int32 × WL)) :=
  some (.inr (a2, (a3 + 1), L))
theorem V_X9_power_80_2  {I : WI} {L : WL} {a1 : Int32} {a2 : Int32} {a3 : Int32} {P : ((Int32 × WL) ⊕ (Int32 × Int32 × WL)) → Prop} {t : Tg} (he : ∀ x : (Int32 × WL), P (.inl x) → V (zM x_X9_power 4 0 0 t) 86 [(0, .ref 33), (1, .int a1), (2, .int (p1 x))] [] ly0 I (p2 x) R0 0 0) (hk : ∀ x : (Int32 × Int32 × WL), P (.inr x) → V (zM x_X9_power 4 0 0 t) 37 [(0, .ref 33), (1, .int a1), (2, .int (p1 x)), (3, .int (p1 (p2 x)))] [] ly0 I (p2 (p2 x)) R0 0 0) : oP P (F_X9_power_80_2 I L a1 a2 a3) → V (zM x_X9_power 4 0 0 t) 80 [(0, .ref 33), (1, .int a1), (2, .int a2), (3, .int a3)] [] ly0 I L R0 0 0 :=
  fun _ =>
  have kq : (oP P (F_X9_power_80_2 I L a1 a2 a3)) ∧ True := ⟨by assumption, trivial⟩
  V_iinc (v := (a3 + 1)) (lv' := [(3, .int (a3 + 1)), (0, .ref 33), (1, .int a1), (2, .int a2)]) (tat ok_X9_power_1 (i := 8) (q := 83) rfl rfl) 3 rfl (ia ic_1) (Nat.le_of_ble_eq_true rfl) rfl <|
    V_goto (tat ok_X9_power_1 (i := 9) (q := 86) rfl rfl) rfl <|
    V_pick [1, 2, 3, 0] rfl (hk (a2, (a3 + 1), L) (jq (P := oP P) kq rfl))
def F_X9_power_47_2 (I : WI) (L : WL) (a1 : Int32) (a2 : Int32) (a3 : Int32) (a4 : Int32) : Option ((Int32 × WL) ⊕ (Int32 × Int32 × WL)) :=
  (lpp (fun x => (F_X9_power_47_3 I (p2 (p2 x)) a1 a3 (p1 x) (p1 (p2 x)))) 4294967296 (a2, a4, L)).bind (fun q => (F_X9_power_80_2 I (p2 q) a1 (p1 q) a3))
theorem V_X9_power_47_2  {I : WI} {L : WL} {a1 : Int32} {a2 : Int32} {a3 : Int32} {a4 : Int32} {P : ((Int32 × WL) ⊕ (Int32 × Int32 × WL)) → Prop} {t : Tg} (hb4 : bz a4 = a4) (he : ∀ x : (Int32 × WL), P (.inl x) → V (zM x_X9_power 4 0 0 t) 86 [(0, .ref 33), (1, .int a1), (2, .int (p1 x))] [] ly0 I (p2 x) R0 0 0) (hk : ∀ x : (Int32 × Int32 × WL), P (.inr x) → V (zM x_X9_power 4 0 0 t) 37 [(0, .ref 33), (1, .int a1), (2, .int (p1 x)), (3, .int (p1 (p2 x)))] [] ly0 I (p2 (p2 x)) R0 0 0) (kk : oP P (F_X9_power_47_2 I L a1 a2 a3 a4)) : V (zM x_X9_power 4 0 0 t) 47 [(0, .ref 33), (1, .int a1), (2, .int a2), (3, .int a3), (4, .int a4)] [] ly0 I L R0 0 0 :=
  V_lpp (fun x => (F_X9_power_47_3 I (p2 (p2 x)) a1 a3 (p1 x) (p1 (p2 x)))) (fun x => V (zM x_X9_power 4 0 0 t) 47 [(0, .ref 33), (1, .int a1), (2, .int (p1 x)), (3, .int a3), (4, .int (p1 (p2 x)))] [] ly0 I (p2 (p2 x)) R0 0 0) (fun x => oP P ((F_X9_power_80_2 I (p2 x) a1 (p1 x) a3))) (s := (a2, a4, L)) (fun x e0 => V_X9_power_47_3 (P := Sum.elim (fun x => oP P ((F_X9_power_80_2 I (p2 x) a1 (p1 x) a3))) (fun x => V (zM x_X9_power 4 0 0 t) 47 [(0, .ref 33), (1, .int a1), (2, .int (p1 x)), (3, .int a3), (4, .int (p1 (p2 x)))] [] ly0 I (p2 (p2 x)) R0 0 0))  (fun x e => V_X9_power_80_2  he hk e) (fun _ e => e) e0) (oP_bind (f := fun q => _) kk)
def F_X9_power_37_2 (I : WI) (L : WL) (a1 : Int32) (a2 : Int32) (a3 : Int32) : Option ((Int32 × WL) ⊕ (Int32 × Int32 × WL)) :=
  (if (a1 + 1) < a3 then some (.inl (a2, L)) else (F_X9_power_47_2 I L a1 a2 a3 0))
theorem V_X9_power_37_2  {I : WI} {L : WL} {a1 : Int32} {a2 : Int32} {a3 : Int32} {P : ((Int32 × WL) ⊕ (Int32 × Int32 × WL)) → Prop} {t : Tg} (he : ∀ x : (Int32 × WL), P (.inl x) → V (zM x_X9_power 4 0 0 t) 86 [(0, .ref 33), (1, .int a1), (2, .int (p1 x))] [] ly0 I (p2 x) R0 0 0) (hk : ∀ x : (Int32 × Int32 × WL), P (.inr x) → V (zM x_X9_power 4 0 0 t) 37 [(0, .ref 33), (1, .int a1), (2, .int (p1 x)), (3, .int (p1 (p2 x)))] [] ly0 I (p2 (p2 x)) R0 0 0) : oP P (F_X9_power_37_2 I L a1 a2 a3) → V (zM x_X9_power 4 0 0 t) 37 [(0, .ref 33), (1, .int a1), (2, .int a2), (3, .int a3)] [] ly0 I L R0 0 0 :=
  fun _ =>
  have kq : (oP P (F_X9_power_37_2 I L a1 a2 a3)) ∧ True := ⟨by assumption, trivial⟩
  V_iload_n (tat ok_X9_power_0 (i := 24) (q := 38) rfl rfl) 3 rfl rfl <|
    V_iload_n (tat ok_X9_power_0 (i := 25) (q := 39) rfl rfl) 1 rfl rfl <|
    V_iconst (tat ok_X9_power_0 (i := 26) (q := 40) rfl rfl) ic_1 <|
    V_iadd (tat ok_X9_power_0 (i := 27) (q := 41) rfl rfl) <|
    V_icmp_gt (tat ok_X9_power_0 (i := 28) (q := 44) rfl rfl) rfl (fun c3 => V_pick [0, 1, 2] rfl (he (a2, L) (jq (P := oP P) kq (if_pos c3)))) (fun c3 => V_iconst (tat ok_X9_power_0 (i := 29) (q := 45) rfl rfl) ic_0 <|
    V_istore (lv' := [(4, .int 0), (0, .ref 33), (1, .int a1), (2, .int a2), (3, .int a3)]) (tat ok_X9_power_0 (i := 30) (q := 47) rfl rfl) (Nat.le_of_ble_eq_true rfl) rfl <|
    V_pick [1, 2, 3, 4, 0] rfl (V_X9_power_47_2 rfl he hk (jq (P := oP P) kq (if_neg c3))))
def F_X9_power_86 (I : WI) (L : WL) (a1 : Int32) (a2 : Int32) : Option (Int32 × WL) :=
  some (a2, L)
theorem V_X9_power_86  {I : WI} {L : WL} {a1 : Int32} {a2 : Int32} {P : (Int32 × WL) → Prop} {t : Tg} (hr : ∀ v, P v → t = (some (.int (p1 v)), ly0, I, (p2 v), R0)) : oP P (F_X9_power_86 I L a1 a2) → V (zM x_X9_power 4 0 0 t) 86 [(0, .ref 33), (1, .int a1), (2, .int a2)] [] ly0 I L R0 0 0 :=
  fun _ =>
  have kq : (oP P (F_X9_power_86 I L a1 a2)) ∧ True := ⟨by assumption, trivial⟩
  V_iload_n (tat ok_X9_power_1 (i := 10) (q := 87) rfl rfl) 2 rfl rfl <|
    V_iret (tat ok_X9_power_1 (i := 11) (q := 88) rfl rfl) _ rfl (nar_int _) (hr (a2, L) (jq (P := oP P) kq rfl)) ⟨(Nat.le_of_ble_eq_true rfl), (Nat.le_of_ble_eq_true rfl)⟩
def F_X9_power_37 (I : WI) (L : WL) (a1 : Int32) (a2 : Int32) (a3 : Int32) : Option (Int32 × WL) :=
  (lpp (fun x => (F_X9_power_37_2 I (p2 (p2 x)) a1 (p1 x) (p1 (p2 x)))) 4294967296 (a2, a3, L)).bind (fun q => (F_X9_power_86 I (p2 q) a1 (p1 q)))
theorem V_X9_power_37  {I : WI} {L : WL} {a1 : Int32} {a2 : Int32} {a3 : Int32} {P : (Int32 × WL) → Prop} {t : Tg} (hb2 : bz a2 = a2) (hb3 : bz a3 = a3) (hr : ∀ v, P v → t = (some (.int (p1 v)), ly0, I, (p2 v), R0)) (kk : oP P (F_X9_power_37 I L a1 a2 a3)) : V (zM x_X9_power 4 0 0 t) 37 [(0, .ref 33), (1, .int a1), (2, .int a2), (3, .int a3)] [] ly0 I L R0 0 0 :=
  V_lpp (fun x => (F_X9_power_37_2 I (p2 (p2 x)) a1 (p1 x) (p1 (p2 x)))) (fun x => V (zM x_X9_power 4 0 0 t) 37 [(0, .ref 33), (1, .int a1), (2, .int (p1 x)), (3, .int (p1 (p2 x)))] [] ly0 I (p2 (p2 x)) R0 0 0) (fun x => oP P ((F_X9_power_86 I (p2 x) a1 (p1 x)))) (s := (a2, a3, L)) (fun x e0 => V_X9_power_37_2 (P := Sum.elim (fun x => oP P ((F_X9_power_86 I (p2 x) a1 (p1 x)))) (fun x => V (zM x_X9_power 4 0 0 t) 37 [(0, .ref 33), (1, .int a1), (2, .int (p1 x)), (3, .int (p1 (p2 x)))] [] ly0 I (p2 (p2 x)) R0 0 0))  (fun x e => V_X9_power_86  hr e) (fun _ e => e) e0) (oP_bind (f := fun q => _) kk)
def F_X9_power_33 (I : WI) (L : WL) (a1 : Int32) : Option (Int32 × WL) :=
  (F_X9_power_37 I L a1 0 0)
theorem V_X9_power_33  {I : WI} {L : WL} {a1 : Int32}  {P : (Int32 × WL) → Prop} {t : Tg} (hr : ∀ v, P v → t = (some (.int (p1 v)), ly0, I, (p2 v), R0)) : oP P (F_X9_power_33 I L a1) → V (zM x_X9_power 4 0 0 t) 33 [(0, .ref 33), (1, .int a1)] [] ly0 I L R0 0 0 :=
  fun _ =>
  have kq : (oP P (F_X9_power_33 I L a1)) ∧ True := ⟨by assumption, trivial⟩
  V_iconst (tat ok_X9_power_0 (i := 20) (q := 34) rfl rfl) ic_0 <|
    V_istore_n (lv' := [(2, .int 0), (0, .ref 33), (1, .int a1)]) (tat ok_X9_power_0 (i := 21) (q := 35) rfl rfl) rfl (Nat.le_of_ble_eq_true rfl) rfl <|
    V_iconst (tat ok_X9_power_0 (i := 22) (q := 36) rfl rfl) ic_0 <|
    V_istore_n (lv' := [(3, .int 0), (2, .int 0), (0, .ref 33), (1, .int a1)]) (tat ok_X9_power_0 (i := 23) (q := 37) rfl rfl) rfl (Nat.le_of_ble_eq_true rfl) rfl <|
    V_pick [2, 3, 1, 0] rfl (V_X9_power_37 rfl rfl hr (jq (P := oP P) kq rfl))
def F_X9_power_14 (I : WI) (L : WL) (a1 : Int32) (a2 : Int32) : Option (Int32 × WL) :=
  (frp0 (fun i x => (F_X9_power_20_1 I x a1 i)) 64 (fu a2 64) a2 L).bind (fun q => (F_X9_power_33 I (p2 q) a1))
theorem V_X9_power_14  {I : WI} {L : WL} {a1 : Int32} {a2 : Int32} {P : (Int32 × WL) → Prop} {t : Tg} (hb2 : bz a2 = a2) (hr : ∀ v, P v → t = (some (.int (p1 v)), ly0, I, (p2 v), R0)) (kk : oP P (F_X9_power_14 I L a1 a2)) : V (zM x_X9_power 4 0 0 t) 14 [(0, .ref 33), (1, .int a1), (2, .int a2)] [] ly0 I L R0 0 0 :=
  V_frp0 (fun i x => (F_X9_power_20_1 I x a1 i)) 64 (fun i x => V (zM x_X9_power 4 0 0 t) 14 [(0, .ref 33), (1, .int a1), (2, .int i)] [] ly0 I x R0 0 0) (fun i x => oP P ((F_X9_power_33 I x a1))) (c := a2) (s := L) (fun i x kx kb => V_iload_n (tat ok_X9_power_0 (i := 10) (q := 15) rfl rfl) 2 rfl rfl <|
    V_bipush (tat ok_X9_power_0 (i := 11) (q := 17) rfl rfl) bp_64 <|
    V_icmp_ge (tat ok_X9_power_0 (i := 12) (q := 20) rfl rfl) rfl (fun c0 => V_pick [0, 1] rfl (V_X9_power_33  hr (kx c0))) (fun c0 => V_X9_power_20_1 (P := (fun x => (fun i x => V (zM x_X9_power 4 0 0 t) 14 [(0, .ref 33), (1, .int a1), (2, .int i)] [] ly0 I x R0 0 0) (i + 1) x))  (fun _ e => e) (kb c0))) (oP_bind (f := fun q => _) kk)
def F_X9_power (I : WI) (L : WL) (a1 : Int32) : Option (Int32 × WL) :=
  (if (F_X9_in (Int32.toInt64 a1) 0 1) = 0 then some ((-1), L) else (F_X9_power_14 I L a1 0))
theorem V_X9_power  {I : WI} {L : WL} {a1 : Int32}  {P : (Int32 × WL) → Prop} {t : Tg} (hr : ∀ v, P v → t = (some (.int (p1 v)), ly0, I, (p2 v), R0)) : oP P (F_X9_power I L a1) → V (zM x_X9_power 4 0 0 t) 0 [(0, .ref 33), (1, .int a1)] [] ly0 I L R0 0 0 :=
  fun _ =>
  have kq : (oP P (F_X9_power I L a1)) ∧ True := ⟨by assumption, trivial⟩
  V_iload_n (tat ok_X9_power_0 (i := 0) (q := 1) rfl rfl) 1 rfl rfl <|
    V_i2l (tat ok_X9_power_0 (i := 1) (q := 2) rfl rfl) <|
    V_lconst (v := 0) (tat ok_X9_power_0 (i := 2) (q := 3) rfl rfl) rfl <|
    V_lconst (v := 1) (tat ok_X9_power_0 (i := 3) (q := 4) rfl rfl) rfl <|
    V_cs3 (ct_X9_in I L (Int32.toInt64 a1) 0 1 ) mo_X9_in (tat ok_X9_power_0 (i := 4) (q := 7) rfl rfl) ml_X9_97 ⟨(Nat.le_of_ble_eq_true rfl), (Nat.le_of_ble_eq_true rfl)⟩ ⟨(Nat.le_of_ble_eq_true rfl), (Nat.le_of_ble_eq_true rfl)⟩ (Nat.le_of_ble_eq_true rfl) <|
    V_if_ne (tat ok_X9_power_0 (i := 5) (q := 10) rfl rfl) rfl (fun c1 => V_iconst (tat ok_X9_power_0 (i := 8) (q := 13) rfl rfl) ic_0 <|
    V_istore_n (lv' := [(2, .int 0), (0, .ref 33), (1, .int a1)]) (tat ok_X9_power_0 (i := 9) (q := 14) rfl rfl) rfl (Nat.le_of_ble_eq_true rfl) rfl <|
    V_pick [1, 2, 0] rfl (V_X9_power_14 rfl hr (jq (P := oP P) kq (if_neg c1)))) (fun c1 => V_iconst (tat ok_X9_power_0 (i := 6) (q := 11) rfl rfl) ic_m1 <|
    V_iret (tat ok_X9_power_0 (i := 7) (q := 12) rfl rfl) _ rfl (nar_int _) (hr ((-1), L) (jq (P := oP P) kq (if_pos c1))) ⟨(Nat.le_of_ble_eq_true rfl), (Nat.le_of_ble_eq_true rfl)⟩)
theorem ct_X9_power  (I : WI) (L : WL) (a1 : Int32)  {v : (Int32 × WL)} (h : (F_X9_power I L a1) = some v) : Ct x_X9_power 4 [.ref 33, .int a1] ly0 I L R0 0 0 (some (.int (p1 v)), ly0, I, (p2 v), R0) :=
  Ct_of_V mo_X9_power.1 (Nat.le_of_ble_eq_true rfl) (V_X9_power (P := fun x => x = v)  (fun _ e => by rw [e]) (by rw [h]; exact rfl))
def F_X9_isMove_30 (I : WI) (a1 : Int32) (a2 : Int32) (s0 : Int32) : Int32 :=
  s0
theorem V_X9_isMove_30  {I : WI} {L : WL} {a1 : Int32} {a2 : Int32} {s0 : Int32} {P : Int32 → Prop} {t : Tg} (hs0 : bz s0 = s0) (hr : ∀ v, P v → t = (some (.int v), ly0, I, L, R0)) (kk : P (F_X9_isMove_30 I a1 a2 s0)) : V (zM x_X9_isMove 1 0 0 t) 30 [(0, .ref 33), (1, .int a1), (2, .int a2)] [.int s0] ly0 I L R0 0 0 :=
  V_iret (tat ok_X9_isMove_0 (i := 15) (q := 31) rfl rfl) _ rfl (bz_nf hs0).1 (hr s0 (jx (P := P) kk rfl)) ⟨(Nat.le_of_ble_eq_true rfl), (Nat.le_of_ble_eq_true rfl)⟩
def F_X9_isMove_25 (I : WI) (a1 : Int32) (a2 : Int32) : Int32 :=
  (F_X9_isMove_30 I a1 a2 1)
theorem V_X9_isMove_25  {I : WI} {L : WL} {a1 : Int32} {a2 : Int32}  {P : Int32 → Prop} {t : Tg} (hr : ∀ v, P v → t = (some (.int v), ly0, I, L, R0)) (kk : P (F_X9_isMove_25 I a1 a2)) : V (zM x_X9_isMove 1 0 0 t) 25 [(0, .ref 33), (1, .int a1), (2, .int a2)] [] ly0 I L R0 0 0 :=
  V_iconst (tat ok_X9_isMove_0 (i := 12) (q := 26) rfl rfl) ic_1 <|
    V_goto (tat ok_X9_isMove_0 (i := 13) (q := 29) rfl rfl) rfl <|
    V_X9_isMove_30 rfl hr (jx (P := P) kk rfl)
def F_X9_isMove_22 (I : WI) (a1 : Int32) (a2 : Int32) (s0 : Int32) (s1 : Int32) : Int32 :=
  (if s0 ≤ s1 then (F_X9_isMove_30 I a1 a2 0) else (F_X9_isMove_25 I a1 a2))
theorem V_X9_isMove_22  {I : WI} {L : WL} {a1 : Int32} {a2 : Int32} {s0 : Int32} {s1 : Int32} {P : Int32 → Prop} {t : Tg} (hr : ∀ v, P v → t = (some (.int v), ly0, I, L, R0)) (kk : P (F_X9_isMove_22 I a1 a2 s0 s1)) : V (zM x_X9_isMove 1 0 0 t) 22 [(0, .ref 33), (1, .int a1), (2, .int a2)] [.int s0, .int s1] ly0 I L R0 0 0 :=
  V_icmp_ge (tat ok_X9_isMove_0 (i := 11) (q := 25) rfl rfl) rfl (fun c3 => V_iconst (tat ok_X9_isMove_0 (i := 14) (q := 30) rfl rfl) ic_0 <|
    V_X9_isMove_30 rfl hr (jx (P := P) kk (if_pos c3))) (fun c3 => V_X9_isMove_25  hr (jx (P := P) kk (if_neg c3)))
def F_X9_isMove (I : WI) (a1 : Int32) (a2 : Int32) : Int32 :=
  (if a2 = 8 then (F_X9_isMove_25 I a1 a2) else (if a1 = 0 then (F_X9_isMove_22 I a1 a2 (I 33 1) a2) else (F_X9_isMove_22 I a1 a2 (I 33 0) a2)))
theorem V_X9_isMove  {I : WI} {L : WL} {a1 : Int32} {a2 : Int32}  {P : Int32 → Prop} {t : Tg} (hr : ∀ v, P v → t = (some (.int v), ly0, I, L, R0)) (kk : P (F_X9_isMove I a1 a2)) : V (zM x_X9_isMove 1 0 0 t) 0 [(0, .ref 33), (1, .int a1), (2, .int a2)] [] ly0 I L R0 0 0 :=
  V_iload_n (tat ok_X9_isMove_0 (i := 0) (q := 1) rfl rfl) 2 rfl rfl <|
    V_bipush (tat ok_X9_isMove_0 (i := 1) (q := 3) rfl rfl) bp_8 <|
    V_icmp_eq (tat ok_X9_isMove_0 (i := 2) (q := 6) rfl rfl) rfl (fun c1 => V_X9_isMove_25  hr (jx (P := P) kk (if_pos c1))) (fun c1 => V_iload_n (tat ok_X9_isMove_0 (i := 3) (q := 7) rfl rfl) 2 rfl rfl <|
    V_iload_n (tat ok_X9_isMove_0 (i := 4) (q := 8) rfl rfl) 1 rfl rfl <|
    V_if_eq (tat ok_X9_isMove_0 (i := 5) (q := 11) rfl rfl) rfl (fun c2 => V_aload_n (tat ok_X9_isMove_0 (i := 9) (q := 19) rfl rfl) 0 rfl rfl <|
    V_getI (tat ok_X9_isMove_0 (i := 10) (q := 22) rfl rfl) fk_X9_77 rfl <|
    V_X9_isMove_22  hr (jx (P := P) kk (Eq.trans (if_neg c1) (if_pos c2)))) (fun c2 => V_aload_n (tat ok_X9_isMove_0 (i := 6) (q := 12) rfl rfl) 0 rfl rfl <|
    V_getI (tat ok_X9_isMove_0 (i := 7) (q := 15) rfl rfl) fk_X9_74 rfl <|
    V_goto (tat ok_X9_isMove_0 (i := 8) (q := 18) rfl rfl) rfl <|
    V_X9_isMove_22  hr (jx (P := P) kk (Eq.trans (if_neg c1) (if_neg c2)))))
theorem ct_X9_isMove  (I : WI) (L : WL) (a1 : Int32) (a2 : Int32)  : Ct x_X9_isMove 1 [.ref 33, .int a1, .int a2] ly0 I L R0 0 0 (some (.int (F_X9_isMove I a1 a2)), ly0, I, L, R0) :=
  Ct_of_V mo_X9_isMove.1 (Nat.le_of_ble_eq_true rfl) (V_X9_isMove (P := fun x => x = (F_X9_isMove I a1 a2))  (fun _ e => by rw [e]) rfl)
def F_X9_worthOf_116_1 (I : WI) (L : WL) (a1 : Int32) (a2 : Int32) (a3 : Int32) (a6 : Int32) (a7 : Int32) (a8 : Int32) (s0 : Int64) (s1 : Int64) : Option ((Int64 × Int32) ⊕ (Int64 × Int32 × Int32 × Int32)) :=
  some (.inr ((s1 ^^^ s0), a6, a7, (a8 + (-1))))
theorem V_X9_worthOf_116_1  {I : WI} {L : WL} {a1 : Int32} {a2 : Int32} {a3 : Int32} {a6 : Int32} {a7 : Int32} {a8 : Int32} {s0 : Int64} {s1 : Int64} {P : ((Int64 × Int32) ⊕ (Int64 × Int32 × Int32 × Int32)) → Prop} {t : Tg} (hb7 : bz a7 = a7) (he : ∀ x : (Int64 × Int32), P (.inl x) → V (zM x_X9_worthOf 3 0 0 t) 125 [(0, .ref 33), (1, .int a1), (2, .int a2), (3, .int a3), (4, .long (p1 x)), (7, .int (p2 x))] [] ly0 I L R0 0 0) (hk : ∀ x : (Int64 × Int32 × Int32 × Int32), P (.inr x) → V (zM x_X9_worthOf 3 0 0 t) 17 [(0, .ref 33), (1, .int a1), (2, .int a2), (3, .int a3), (4, .long (p1 x)), (6, .int (p1 (p2 x))), (7, .int (p1 (p2 (p2 x)))), (8, .int (p2 (p2 (p2 x))))] [] ly0 I L R0 0 0) : oP P (F_X9_worthOf_116_1 I L a1 a2 a3 a6 a7 a8 s0 s1) → V (zM x_X9_worthOf 3 0 0 t) 116 [(0, .ref 33), (1, .int a1), (2, .int a2), (3, .int a3), (6, .int a6), (7, .int a7), (8, .int a8)] [.long s0, .long s1] ly0 I L R0 0 0 :=
  fun _ =>
  have kq : (oP P (F_X9_worthOf_116_1 I L a1 a2 a3 a6 a7 a8 s0 s1)) ∧ True := ⟨by assumption, trivial⟩
  V_lxor (tat ok_X9_worthOf_1 (i := 21) (q := 117) rfl rfl) <|
    V_lstore (lv' := [(4, .long (s1 ^^^ s0)), (0, .ref 33), (1, .int a1), (2, .int a2), (3, .int a3), (6, .int a6), (7, .int a7), (8, .int a8)]) (tat ok_X9_worthOf_1 (i := 22) (q := 119) rfl rfl) (Nat.le_of_ble_eq_true rfl) rfl <|
    V_iinc (v := (a8 + (-1))) (lv' := [(8, .int (a8 + (-1))), (4, .long (s1 ^^^ s0)), (0, .ref 33), (1, .int a1), (2, .int a2), (3, .int a3), (6, .int a6), (7, .int a7)]) (tat ok_X9_worthOf_1 (i := 23) (q := 122) rfl rfl) 7 rfl (ia ic_m1) (Nat.le_of_ble_eq_true rfl) rfl <|
    V_goto (tat ok_X9_worthOf_1 (i := 24) (q := 125) rfl rfl) rfl <|
    V_pick [2, 3, 4, 5, 1, 6, 7, 0] rfl (hk ((s1 ^^^ s0), a6, a7, (a8 + (-1))) (jq (P := oP P) kq rfl))
def F_X9_worthOf_115_1 (I : WI) (L : WL) (a1 : Int32) (a2 : Int32) (a3 : Int32) (a6 : Int32) (a7 : Int32) (a8 : Int32) (s0 : Int64) : Option ((Int64 × Int32) ⊕ (Int64 × Int32 × Int32 × Int32)) :=
  (F_X9_worthOf_116_1 I L a1 a2 a3 a6 a7 a8 0 s0)
theorem V_X9_worthOf_115_1  {I : WI} {L : WL} {a1 : Int32} {a2 : Int32} {a3 : Int32} {a6 : Int32} {a7 : Int32} {a8 : Int32} {s0 : Int64} {P : ((Int64 × Int32) ⊕ (Int64 × Int32 × Int32 × Int32)) → Prop} {t : Tg} (hb7 : bz a7 = a7) (he : ∀ x : (Int64 × Int32), P (.inl x) → V (zM x_X9_worthOf 3 0 0 t) 125 [(0, .ref 33), (1, .int a1), (2, .int a2), (3, .int a3), (4, .long (p1 x)), (7, .int (p2 x))] [] ly0 I L R0 0 0) (hk : ∀ x : (Int64 × Int32 × Int32 × Int32), P (.inr x) → V (zM x_X9_worthOf 3 0 0 t) 17 [(0, .ref 33), (1, .int a1), (2, .int a2), (3, .int a3), (4, .long (p1 x)), (6, .int (p1 (p2 x))), (7, .int (p1 (p2 (p2 x)))), (8, .int (p2 (p2 (p2 x))))] [] ly0 I L R0 0 0) : oP P (F_X9_worthOf_115_1 I L a1 a2 a3 a6 a7 a8 s0) → V (zM x_X9_worthOf 3 0 0 t) 115 [(0, .ref 33), (1, .int a1), (2, .int a2), (3, .int a3), (6, .int a6), (7, .int a7), (8, .int a8)] [.long s0] ly0 I L R0 0 0 :=
  fun _ =>
  have kq : (oP P (F_X9_worthOf_115_1 I L a1 a2 a3 a6 a7 a8 s0)) ∧ True := ⟨by assumption, trivial⟩
  V_lconst (v := 0) (tat ok_X9_worthOf_1 (i := 20) (q := 116) rfl rfl) rfl <|
    V_X9_worthOf_116_1 hb7 he hk (jq (P := oP P) kq rfl)
def F_X9_worthOf_107_1 (I : WI) (L : WL) (a1 : Int32) (a2 : Int32) (a3 : Int32) (a6 : Int32) (a7 : Int32) (a8 : Int32) (a10 : Int32) (s0 : Int32) (s2 : Int64) : Option ((Int64 × Int32) ⊕ (Int64 × Int32 × Int32 × Int32)) :=
  (F_X9_worthOf_116_1 I L a1 a2 a3 a6 a7 a8 (F_X9_actSet I s0 a10) s2)
theorem V_X9_worthOf_107_1  {I : WI} {L : WL} {a1 : Int32} {a2 : Int32} {a3 : Int32} {a6 : Int32} {a7 : Int32} {a8 : Int32} {a10 : Int32} {s0 : Int32} {s2 : Int64} {P : ((Int64 × Int32) ⊕ (Int64 × Int32 × Int32 × Int32)) → Prop} {t : Tg} (hb7 : bz a7 = a7) (hs0 : bz s0 = s0) (he : ∀ x : (Int64 × Int32), P (.inl x) → V (zM x_X9_worthOf 3 0 0 t) 125 [(0, .ref 33), (1, .int a1), (2, .int a2), (3, .int a3), (4, .long (p1 x)), (7, .int (p2 x))] [] ly0 I L R0 0 0) (hk : ∀ x : (Int64 × Int32 × Int32 × Int32), P (.inr x) → V (zM x_X9_worthOf 3 0 0 t) 17 [(0, .ref 33), (1, .int a1), (2, .int a2), (3, .int a3), (4, .long (p1 x)), (6, .int (p1 (p2 x))), (7, .int (p1 (p2 (p2 x)))), (8, .int (p2 (p2 (p2 x))))] [] ly0 I L R0 0 0) : oP P (F_X9_worthOf_107_1 I L a1 a2 a3 a6 a7 a8 a10 s0 s2) → V (zM x_X9_worthOf 3 0 0 t) 107 [(0, .ref 33), (1, .int a1), (2, .int a2), (3, .int a3), (6, .int a6), (7, .int a7), (8, .int a8), (10, .int a10)] [.int s0, .ref 33, .long s2] ly0 I L R0 0 0 :=
  fun _ =>
  have kq : (oP P (F_X9_worthOf_107_1 I L a1 a2 a3 a6 a7 a8 a10 s0 s2)) ∧ True := ⟨by assumption, trivial⟩
  V_iload (tat ok_X9_worthOf_1 (i := 17) (q := 109) rfl rfl) 7 rfl <|
    V_cv2 (ct_X9_actSet I L s0 a10 ) mo_X9_actSet (tat ok_X9_worthOf_1 (i := 18) (q := 112) rfl rfl) ml_X9_217 rfl ⟨by decide, _, rfl, rfl⟩ ⟨(Nat.le_of_ble_eq_true rfl), (Nat.le_of_ble_eq_true rfl)⟩ ⟨(Nat.le_of_ble_eq_true rfl), (Nat.le_of_ble_eq_true rfl)⟩ (Nat.le_of_ble_eq_true rfl) <|
    V_goto (tat ok_X9_worthOf_1 (i := 19) (q := 115) rfl rfl) rfl <|
    V_pick [0, 1, 2, 3, 4, 5, 6] rfl (V_X9_worthOf_116_1 hb7 he hk (jq (P := oP P) kq rfl))
def F_X9_worthOf_80_1 (I : WI) (L : WL) (a1 : Int32) (a2 : Int32) (a3 : Int32) (a4 : Int64) (a6 : Int32) (a8 : Int32) (a9 : Int32) (a10 : Int32) (s0 : Int32) : Option ((Int64 × Int32) ⊕ (Int64 × Int32 × Int32 × Int32)) :=
  (if s0 = 0 then (F_X9_worthOf_115_1 I L a1 a2 a3 a6 s0 a8 a4) else (if 8 ≤ a10 then (F_X9_worthOf_115_1 I L a1 a2 a3 a6 s0 a8 a4) else (if a9 = 0 then (F_X9_worthOf_107_1 I L a1 a2 a3 a6 s0 a8 a10 1 a4) else (F_X9_worthOf_107_1 I L a1 a2 a3 a6 s0 a8 a10 0 a4))))
theorem V_X9_worthOf_80_1  {I : WI} {L : WL} {a1 : Int32} {a2 : Int32} {a3 : Int32} {a4 : Int64} {a6 : Int32} {a8 : Int32} {a9 : Int32} {a10 : Int32} {s0 : Int32} {P : ((Int64 × Int32) ⊕ (Int64 × Int32 × Int32 × Int32)) → Prop} {t : Tg} (hb9 : bz a9 = a9) (hs0 : bz s0 = s0) (he : ∀ x : (Int64 × Int32), P (.inl x) → V (zM x_X9_worthOf 3 0 0 t) 125 [(0, .ref 33), (1, .int a1), (2, .int a2), (3, .int a3), (4, .long (p1 x)), (7, .int (p2 x))] [] ly0 I L R0 0 0) (hk : ∀ x : (Int64 × Int32 × Int32 × Int32), P (.inr x) → V (zM x_X9_worthOf 3 0 0 t) 17 [(0, .ref 33), (1, .int a1), (2, .int a2), (3, .int a3), (4, .long (p1 x)), (6, .int (p1 (p2 x))), (7, .int (p1 (p2 (p2 x)))), (8, .int (p2 (p2 (p2 x))))] [] ly0 I L R0 0 0) : oP P (F_X9_worthOf_80_1 I L a1 a2 a3 a4 a6 a8 a9 a10 s0) → V (zM x_X9_worthOf 3 0 0 t) 80 [(0, .ref 33), (1, .int a1), (2, .int a2), (3, .int a3), (4, .long a4), (6, .int a6), (8, .int a8), (9, .int a9), (10, .int a10)] [.int s0] ly0 I L R0 0 0 :=
  fun _ =>
  have kq : (oP P (F_X9_worthOf_80_1 I L a1 a2 a3 a4 a6 a8 a9 a10 s0)) ∧ True := ⟨by assumption, trivial⟩
  V_istore (lv' := [(7, .int s0), (0, .ref 33), (1, .int a1), (2, .int a2), (3, .int a3), (4, .long a4), (6, .int a6), (8, .int a8), (9, .int a9), (10, .int a10)]) (tat ok_X9_worthOf_1 (i := 4) (q := 82) rfl rfl) (Nat.le_of_ble_eq_true rfl) rfl <|
    V_lload (tat ok_X9_worthOf_1 (i := 5) (q := 84) rfl rfl) 5 rfl <|
    V_iload (tat ok_X9_worthOf_1 (i := 6) (q := 86) rfl rfl) 0 rfl <|
    V_if_eq (tat ok_X9_worthOf_1 (i := 7) (q := 89) rfl rfl) rfl (fun c5 => V_pick [1, 2, 3, 4, 6, 0, 7] rfl (V_X9_worthOf_115_1 hs0 he hk (jq (P := oP P) kq (if_pos c5)))) (fun c5 => V_iload (tat ok_X9_worthOf_1 (i := 8) (q := 91) rfl rfl) 9 rfl <|
    V_bipush (tat ok_X9_worthOf_1 (i := 9) (q := 93) rfl rfl) bp_8 <|
    V_icmp_ge (tat ok_X9_worthOf_1 (i := 10) (q := 96) rfl rfl) rfl (fun c6 => V_pick [1, 2, 3, 4, 6, 0, 7] rfl (V_X9_worthOf_115_1 hs0 he hk (jq (P := oP P) kq (Eq.trans (if_neg c5) (if_pos c6))))) (fun c6 => V_aload_n (tat ok_X9_worthOf_1 (i := 11) (q := 97) rfl rfl) 1 rfl rfl <|
    V_iload (tat ok_X9_worthOf_1 (i := 12) (q := 99) rfl rfl) 8 rfl <|
    V_if_eq (tat ok_X9_worthOf_1 (i := 13) (q := 102) rfl rfl) rfl (fun c7 => V_iconst (tat ok_X9_worthOf_1 (i := 16) (q := 107) rfl rfl) ic_1 <|
    V_pick [1, 2, 3, 4, 6, 0, 7, 9] rfl (V_X9_worthOf_107_1 hs0 rfl he hk (jq (P := oP P) kq (Eq.trans (if_neg c5) (Eq.trans (if_neg c6) (if_pos c7)))))) (fun c7 => V_iconst (tat ok_X9_worthOf_1 (i := 14) (q := 103) rfl rfl) ic_0 <|
    V_goto (tat ok_X9_worthOf_1 (i := 15) (q := 106) rfl rfl) rfl <|
    V_pick [1, 2, 3, 4, 6, 0, 7, 9] rfl (V_X9_worthOf_107_1 hs0 rfl he hk (jq (P := oP P) kq (Eq.trans (if_neg c5) (Eq.trans (if_neg c6) (if_neg c7))))))))
def F_X9_worthOf_79_1 (I : WI) (L : WL) (a1 : Int32) (a2 : Int32) (a3 : Int32) (a4 : Int64) (a6 : Int32) (a8 : Int32) (a9 : Int32) (a10 : Int32) : Option ((Int64 × Int32) ⊕ (Int64 × Int32 × Int32 × Int32)) :=
  (F_X9_worthOf_80_1 I L a1 a2 a3 a4 a6 a8 a9 a10 0)
theorem V_X9_worthOf_79_1  {I : WI} {L : WL} {a1 : Int32} {a2 : Int32} {a3 : Int32} {a4 : Int64} {a6 : Int32} {a8 : Int32} {a9 : Int32} {a10 : Int32} {P : ((Int64 × Int32) ⊕ (Int64 × Int32 × Int32 × Int32)) → Prop} {t : Tg} (hb9 : bz a9 = a9) (he : ∀ x : (Int64 × Int32), P (.inl x) → V (zM x_X9_worthOf 3 0 0 t) 125 [(0, .ref 33), (1, .int a1), (2, .int a2), (3, .int a3), (4, .long (p1 x)), (7, .int (p2 x))] [] ly0 I L R0 0 0) (hk : ∀ x : (Int64 × Int32 × Int32 × Int32), P (.inr x) → V (zM x_X9_worthOf 3 0 0 t) 17 [(0, .ref 33), (1, .int a1), (2, .int a2), (3, .int a3), (4, .long (p1 x)), (6, .int (p1 (p2 x))), (7, .int (p1 (p2 (p2 x)))), (8, .int (p2 (p2 (p2 x))))] [] ly0 I L R0 0 0) : oP P (F_X9_worthOf_79_1 I L a1 a2 a3 a4 a6 a8 a9 a10) → V (zM x_X9_worthOf 3 0 0 t) 79 [(0, .ref 33), (1, .int a1), (2, .int a2), (3, .int a3), (4, .long a4), (6, .int a6), (8, .int a8), (9, .int a9), (10, .int a10)] [] ly0 I L R0 0 0 :=
  fun _ =>
  have kq : (oP P (F_X9_worthOf_79_1 I L a1 a2 a3 a4 a6 a8 a9 a10)) ∧ True := ⟨by assumption, trivial⟩
  V_iconst (tat ok_X9_worthOf_1 (i := 3) (q := 80) rfl rfl) ic_0 <|
    V_X9_worthOf_80_1 hb9 rfl he hk (jq (P := oP P) kq rfl)
def F_X9_worthOf_43_1 (I : WI) (L : WL) (a1 : Int32) (a2 : Int32) (a3 : Int32) (a4 : Int64) (a6 : Int32) (a7 : Int32) (a8 : Int32) (s0 : Int32) : Option ((Int64 × Int32) ⊕ (Int64 × Int32 × Int32 × Int32)) :=
  (if a7 = 0 then (F_X9_worthOf_79_1 I L a1 a2 a3 a4 (a6 / 9) a8 s0 (a6 - a6 / 9 * 9)) else (if (F_X9_isMove I s0 (a6 - a6 / 9 * 9)) = 0 then (F_X9_worthOf_79_1 I L a1 a2 a3 a4 (a6 / 9) a8 s0 (a6 - a6 / 9 * 9)) else (F_X9_worthOf_80_1 I L a1 a2 a3 a4 (a6 / 9) a8 s0 (a6 - a6 / 9 * 9) 1)))
theorem V_X9_worthOf_43_1  {I : WI} {L : WL} {a1 : Int32} {a2 : Int32} {a3 : Int32} {a4 : Int64} {a6 : Int32} {a7 : Int32} {a8 : Int32} {s0 : Int32} {P : ((Int64 × Int32) ⊕ (Int64 × Int32 × Int32 × Int32)) → Prop} {t : Tg} (hs0 : bz s0 = s0) (he : ∀ x : (Int64 × Int32), P (.inl x) → V (zM x_X9_worthOf 3 0 0 t) 125 [(0, .ref 33), (1, .int a1), (2, .int a2), (3, .int a3), (4, .long (p1 x)), (7, .int (p2 x))] [] ly0 I L R0 0 0) (hk : ∀ x : (Int64 × Int32 × Int32 × Int32), P (.inr x) → V (zM x_X9_worthOf 3 0 0 t) 17 [(0, .ref 33), (1, .int a1), (2, .int a2), (3, .int a3), (4, .long (p1 x)), (6, .int (p1 (p2 x))), (7, .int (p1 (p2 (p2 x)))), (8, .int (p2 (p2 (p2 x))))] [] ly0 I L R0 0 0) : oP P (F_X9_worthOf_43_1 I L a1 a2 a3 a4 a6 a7 a8 s0) → V (zM x_X9_worthOf 3 0 0 t) 43 [(0, .ref 33), (1, .int a1), (2, .int a2), (3, .int a3), (4, .long a4), (6, .int a6), (7, .int a7), (8, .int a8)] [.int s0] ly0 I L R0 0 0 :=
  fun _ =>
  have kq : (oP P (F_X9_worthOf_43_1 I L a1 a2 a3 a4 a6 a7 a8 s0)) ∧ True := ⟨by assumption, trivial⟩
  V_istore (lv' := [(9, .int s0), (0, .ref 33), (1, .int a1), (2, .int a2), (3, .int a3), (4, .long a4), (6, .int a6), (7, .int a7), (8, .int a8)]) (tat ok_X9_worthOf_0 (i := 25) (q := 45) rfl rfl) (Nat.le_of_ble_eq_true rfl) rfl <|
    V_iload (tat ok_X9_worthOf_0 (i := 26) (q := 47) rfl rfl) 6 rfl <|
    V_bipush (tat ok_X9_worthOf_0 (i := 27) (q := 49) rfl rfl) bp_9 <|
    V_irem (tat ok_X9_worthOf_0 (i := 28) (q := 50) rfl rfl) (by decide) <|
    V_istore (lv' := [(10, .int (a6 - a6 / 9 * 9)), (9, .int s0), (0, .ref 33), (1, .int a1), (2, .int a2), (3, .int a3), (4, .long a4), (6, .int a6), (7, .int a7), (8, .int a8)]) (tat ok_X9_worthOf_0 (i := 29) (q := 52) rfl rfl) (Nat.le_of_ble_eq_true rfl) rfl <|
    V_iload (tat ok_X9_worthOf_0 (i := 30) (q := 54) rfl rfl) 7 rfl <|
    V_bipush (tat ok_X9_worthOf_0 (i := 31) (q := 56) rfl rfl) bp_9 <|
    V_idiv (tat ok_X9_worthOf_0 (i := 32) (q := 57) rfl rfl) (by decide) <|
    V_istore (lv' := [(6, .int (a6 / 9)), (10, .int (a6 - a6 / 9 * 9)), (9, .int s0), (0, .ref 33), (1, .int a1), (2, .int a2), (3, .int a3), (4, .long a4), (7, .int a7), (8, .int a8)]) (tat ok_X9_worthOf_0 (i := 33) (q := 59) rfl rfl) (Nat.le_of_ble_eq_true rfl) rfl <|
    V_iload (tat ok_X9_worthOf_0 (i := 34) (q := 61) rfl rfl) 8 rfl <|
    V_if_eq (tat ok_X9_worthOf_0 (i := 35) (q := 64) rfl rfl) rfl (fun c4 => V_pick [3, 4, 5, 6, 7, 0, 9, 2, 1] rfl (V_X9_worthOf_79_1 hs0 he hk (jq (P := oP P) kq (if_pos c4)))) (fun c4 => V_aload_n (tat ok_X9_worthOf_0 (i := 36) (q := 65) rfl rfl) 3 rfl rfl <|
    V_iload (tat ok_X9_worthOf_0 (i := 37) (q := 67) rfl rfl) 2 rfl <|
    V_iload (tat ok_X9_worthOf_0 (i := 38) (q := 69) rfl rfl) 1 rfl <|
    V_cv2 (ct_X9_isMove I L s0 (a6 - a6 / 9 * 9) ) mo_X9_isMove (tat ok_X9_worthOf_0 (i := 39) (q := 72) rfl rfl) ml_X9_287 rfl ⟨by decide, _, rfl, rfl⟩ ⟨(Nat.le_of_ble_eq_true rfl), (Nat.le_of_ble_eq_true rfl)⟩ ⟨(Nat.le_of_ble_eq_true rfl), (Nat.le_of_ble_eq_true rfl)⟩ (Nat.le_of_ble_eq_true rfl) <|
    V_if_eq (tat ok_X9_worthOf_1 (i := 0) (q := 75) rfl rfl) rfl (fun c8 => V_pick [3, 4, 5, 6, 7, 0, 9, 2, 1] rfl (V_X9_worthOf_79_1 hs0 he hk (jq (P := oP P) kq (Eq.trans (if_neg c4) (if_pos c8))))) (fun c8 => V_iconst (tat ok_X9_worthOf_1 (i := 1) (q := 76) rfl rfl) ic_1 <|
    V_goto (tat ok_X9_worthOf_1 (i := 2) (q := 79) rfl rfl) rfl <|
    V_pick [3, 4, 5, 6, 7, 0, 9, 2, 1] rfl (V_X9_worthOf_80_1 hs0 rfl he hk (jq (P := oP P) kq (Eq.trans (if_neg c4) (if_neg c8))))))
def F_X9_worthOf_34_1 (I : WI) (L : WL) (a1 : Int32) (a2 : Int32) (a3 : Int32) (a4 : Int64) (a6 : Int32) (a7 : Int32) (a8 : Int32) (s0 : Int32) : Option ((Int64 × Int32) ⊕ (Int64 × Int32 × Int32 × Int32)) :=
  (if s0 = a3 then (F_X9_worthOf_43_1 I L a1 a2 a3 a4 a6 a7 a8 1) else (F_X9_worthOf_43_1 I L a1 a2 a3 a4 a6 a7 a8 0))
theorem V_X9_worthOf_34_1  {I : WI} {L : WL} {a1 : Int32} {a2 : Int32} {a3 : Int32} {a4 : Int64} {a6 : Int32} {a7 : Int32} {a8 : Int32} {s0 : Int32} {P : ((Int64 × Int32) ⊕ (Int64 × Int32 × Int32 × Int32)) → Prop} {t : Tg} (hs0 : bz s0 = s0) (he : ∀ x : (Int64 × Int32), P (.inl x) → V (zM x_X9_worthOf 3 0 0 t) 125 [(0, .ref 33), (1, .int a1), (2, .int a2), (3, .int a3), (4, .long (p1 x)), (7, .int (p2 x))] [] ly0 I L R0 0 0) (hk : ∀ x : (Int64 × Int32 × Int32 × Int32), P (.inr x) → V (zM x_X9_worthOf 3 0 0 t) 17 [(0, .ref 33), (1, .int a1), (2, .int a2), (3, .int a3), (4, .long (p1 x)), (6, .int (p1 (p2 x))), (7, .int (p1 (p2 (p2 x)))), (8, .int (p2 (p2 (p2 x))))] [] ly0 I L R0 0 0) : oP P (F_X9_worthOf_34_1 I L a1 a2 a3 a4 a6 a7 a8 s0) → V (zM x_X9_worthOf 3 0 0 t) 34 [(0, .ref 33), (1, .int a1), (2, .int a2), (3, .int a3), (4, .long a4), (6, .int a6), (7, .int a7), (8, .int a8)] [.int s0] ly0 I L R0 0 0 :=
  fun _ =>
  have kq : (oP P (F_X9_worthOf_34_1 I L a1 a2 a3 a4 a6 a7 a8 s0)) ∧ True := ⟨by assumption, trivial⟩
  V_iload_n (tat ok_X9_worthOf_0 (i := 20) (q := 35) rfl rfl) 3 rfl rfl <|
    V_icmp_ne (tat ok_X9_worthOf_0 (i := 21) (q := 38) rfl rfl) rfl (fun c3 => V_iconst (tat ok_X9_worthOf_0 (i := 24) (q := 43) rfl rfl) ic_0 <|
    V_X9_worthOf_43_1 rfl he hk (jq (P := oP P) kq (if_neg c3))) (fun c3 => V_iconst (tat ok_X9_worthOf_0 (i := 22) (q := 39) rfl rfl) ic_1 <|
    V_goto (tat ok_X9_worthOf_0 (i := 23) (q := 42) rfl rfl) rfl <|
    V_X9_worthOf_43_1 rfl he hk (jq (P := oP P) kq (if_pos c3)))
def F_X9_worthOf_17_1 (I : WI) (L : WL) (a1 : Int32) (a2 : Int32) (a3 : Int32) (a4 : Int64) (a6 : Int32) (a7 : Int32) (a8 : Int32) : Option ((Int64 × Int32) ⊕ (Int64 × Int32 × Int32 × Int32)) :=
  (if a8 < 0 then some (.inl (a4, a7)) else (if (a8 - a8 / 2 * 2) = 0 then (F_X9_worthOf_34_1 I L a1 a2 a3 a4 a6 a7 a8 1) else (F_X9_worthOf_34_1 I L a1 a2 a3 a4 a6 a7 a8 0)))
theorem V_X9_worthOf_17_1  {I : WI} {L : WL} {a1 : Int32} {a2 : Int32} {a3 : Int32} {a4 : Int64} {a6 : Int32} {a7 : Int32} {a8 : Int32} {P : ((Int64 × Int32) ⊕ (Int64 × Int32 × Int32 × Int32)) → Prop} {t : Tg} (he : ∀ x : (Int64 × Int32), P (.inl x) → V (zM x_X9_worthOf 3 0 0 t) 125 [(0, .ref 33), (1, .int a1), (2, .int a2), (3, .int a3), (4, .long (p1 x)), (7, .int (p2 x))] [] ly0 I L R0 0 0) (hk : ∀ x : (Int64 × Int32 × Int32 × Int32), P (.inr x) → V (zM x_X9_worthOf 3 0 0 t) 17 [(0, .ref 33), (1, .int a1), (2, .int a2), (3, .int a3), (4, .long (p1 x)), (6, .int (p1 (p2 x))), (7, .int (p1 (p2 (p2 x)))), (8, .int (p2 (p2 (p2 x))))] [] ly0 I L R0 0 0) : oP P (F_X9_worthOf_17_1 I L a1 a2 a3 a4 a6 a7 a8) → V (zM x_X9_worthOf 3 0 0 t) 17 [(0, .ref 33), (1, .int a1), (2, .int a2), (3, .int a3), (4, .long a4), (6, .int a6), (7, .int a7), (8, .int a8)] [] ly0 I L R0 0 0 :=
  fun _ =>
  have kq : (oP P (F_X9_worthOf_17_1 I L a1 a2 a3 a4 a6 a7 a8)) ∧ True := ⟨by assumption, trivial⟩
  V_iload (tat ok_X9_worthOf_0 (i := 11) (q := 19) rfl rfl) 7 rfl <|
    V_if_lt (tat ok_X9_worthOf_0 (i := 12) (q := 22) rfl rfl) rfl (fun c1 => V_pick [0, 1, 2, 3, 4, 6] rfl (he (a4, a7) (jq (P := oP P) kq (if_pos c1)))) (fun c1 => V_iload (tat ok_X9_worthOf_0 (i := 13) (q := 24) rfl rfl) 7 rfl <|
    V_iconst (tat ok_X9_worthOf_0 (i := 14) (q := 25) rfl rfl) ic_2 <|
    V_irem (tat ok_X9_worthOf_0 (i := 15) (q := 26) rfl rfl) (by decide) <|
    V_if_ne (tat ok_X9_worthOf_0 (i := 16) (q := 29) rfl rfl) rfl (fun c2 => V_iconst (tat ok_X9_worthOf_0 (i := 19) (q := 34) rfl rfl) ic_0 <|
    V_X9_worthOf_34_1 rfl he hk (jq (P := oP P) kq (Eq.trans (if_neg c1) (if_neg c2)))) (fun c2 => V_iconst (tat ok_X9_worthOf_0 (i := 17) (q := 30) rfl rfl) ic_1 <|
    V_goto (tat ok_X9_worthOf_0 (i := 18) (q := 33) rfl rfl) rfl <|
    V_X9_worthOf_34_1 rfl he hk (jq (P := oP P) kq (Eq.trans (if_neg c1) (if_pos c2)))))
def F_X9_worthOf_140 (I : WI) (L : WL) (a1 : Int32) (a2 : Int32) (a3 : Int32) (s0 : Int32) : Option Int32 :=
  some s0
theorem V_X9_worthOf_140  {I : WI} {L : WL} {a1 : Int32} {a2 : Int32} {a3 : Int32} {s0 : Int32} {P : Int32 → Prop} {t : Tg} (hr : ∀ v, P v → t = (some (.int v), ly0, I, L, R0)) : oP P (F_X9_worthOf_140 I L a1 a2 a3 s0) → V (zM x_X9_worthOf 3 0 0 t) 140 [(0, .ref 33), (1, .int a1), (2, .int a2), (3, .int a3)] [.int s0] ly0 I L R0 0 0 :=
  fun _ =>
  have kq : (oP P (F_X9_worthOf_140 I L a1 a2 a3 s0)) ∧ True := ⟨by assumption, trivial⟩
  V_iret (tat ok_X9_worthOf_1 (i := 31) (q := 141) rfl rfl) _ rfl (nar_int _) (hr s0 (jq (P := oP P) kq rfl)) ⟨(Nat.le_of_ble_eq_true rfl), (Nat.le_of_ble_eq_true rfl)⟩
def F_X9_worthOf_125 (I : WI) (L : WL) (a1 : Int32) (a2 : Int32) (a3 : Int32) (a4 : Int64) (a7 : Int32) : Option Int32 :=
  (if a7 = 0 then (F_X9_worthOf_140 I L a1 a2 a3 (-4)) else (F_X9_worthOf_140 I L a1 a2 a3 (F_X9_many a4)))
theorem V_X9_worthOf_125  {I : WI} {L : WL} {a1 : Int32} {a2 : Int32} {a3 : Int32} {a4 : Int64} {a7 : Int32} {P : Int32 → Prop} {t : Tg} (hr : ∀ v, P v → t = (some (.int v), ly0, I, L, R0)) : oP P (F_X9_worthOf_125 I L a1 a2 a3 a4 a7) → V (zM x_X9_worthOf 3 0 0 t) 125 [(0, .ref 33), (1, .int a1), (2, .int a2), (3, .int a3), (4, .long a4), (7, .int a7)] [] ly0 I L R0 0 0 :=
  fun _ =>
  have kq : (oP P (F_X9_worthOf_125 I L a1 a2 a3 a4 a7)) ∧ True := ⟨by assumption, trivial⟩
  V_iload (tat ok_X9_worthOf_1 (i := 25) (q := 127) rfl rfl) 5 rfl <|
    V_if_eq (tat ok_X9_worthOf_1 (i := 26) (q := 130) rfl rfl) rfl (fun c9 => V_bipush (tat ok_X9_worthOf_1 (i := 30) (q := 140) rfl rfl) bp_m4 <|
    V_pick [0, 1, 2, 3] rfl (V_X9_worthOf_140  hr (jq (P := oP P) kq (if_pos c9)))) (fun c9 => V_lload (tat ok_X9_worthOf_1 (i := 27) (q := 132) rfl rfl) 4 rfl <|
    V_cs1 (ct_X9_many I L a4 ) mo_X9_many (tat ok_X9_worthOf_1 (i := 28) (q := 135) rfl rfl) ml_X9_220 ⟨(Nat.le_of_ble_eq_true rfl), (Nat.le_of_ble_eq_true rfl)⟩ ⟨(Nat.le_of_ble_eq_true rfl), (Nat.le_of_ble_eq_true rfl)⟩ (Nat.le_of_ble_eq_true rfl) <|
    V_goto (tat ok_X9_worthOf_1 (i := 29) (q := 138) rfl rfl) rfl <|
    V_pick [0, 1, 2, 3] rfl (V_X9_worthOf_140  hr (jq (P := oP P) kq (if_neg c9))))
def F_X9_worthOf_17 (I : WI) (L : WL) (a1 : Int32) (a2 : Int32) (a3 : Int32) (a4 : Int64) (a6 : Int32) (a7 : Int32) (a8 : Int32) : Option Int32 :=
  (lpp (fun x => (F_X9_worthOf_17_1 I L a1 a2 a3 (p1 x) (p1 (p2 x)) (p1 (p2 (p2 x))) (p2 (p2 (p2 x))))) 4294967296 (a4, a6, a7, a8)).bind (fun q => (F_X9_worthOf_125 I L a1 a2 a3 (p1 q) (p2 q)))
theorem V_X9_worthOf_17  {I : WI} {L : WL} {a1 : Int32} {a2 : Int32} {a3 : Int32} {a4 : Int64} {a6 : Int32} {a7 : Int32} {a8 : Int32} {P : Int32 → Prop} {t : Tg} (hb7 : bz a7 = a7) (hr : ∀ v, P v → t = (some (.int v), ly0, I, L, R0)) (kk : oP P (F_X9_worthOf_17 I L a1 a2 a3 a4 a6 a7 a8)) : V (zM x_X9_worthOf 3 0 0 t) 17 [(0, .ref 33), (1, .int a1), (2, .int a2), (3, .int a3), (4, .long a4), (6, .int a6), (7, .int a7), (8, .int a8)] [] ly0 I L R0 0 0 :=
  V_lpp (fun x => (F_X9_worthOf_17_1 I L a1 a2 a3 (p1 x) (p1 (p2 x)) (p1 (p2 (p2 x))) (p2 (p2 (p2 x))))) (fun x => V (zM x_X9_worthOf 3 0 0 t) 17 [(0, .ref 33), (1, .int a1), (2, .int a2), (3, .int a3), (4, .long (p1 x)), (6, .int (p1 (p2 x))), (7, .int (p1 (p2 (p2 x)))), (8, .int (p2 (p2 (p2 x))))] [] ly0 I L R0 0 0) (fun x => oP P ((F_X9_worthOf_125 I L a1 a2 a3 (p1 x) (p2 x)))) (s := (a4, a6, a7, a8)) (fun x e0 => V_X9_worthOf_17_1 (P := Sum.elim (fun x => oP P ((F_X9_worthOf_125 I L a1 a2 a3 (p1 x) (p2 x)))) (fun x => V (zM x_X9_worthOf 3 0 0 t) 17 [(0, .ref 33), (1, .int a1), (2, .int a2), (3, .int a3), (4, .long (p1 x)), (6, .int (p1 (p2 x))), (7, .int (p1 (p2 (p2 x)))), (8, .int (p2 (p2 (p2 x))))] [] ly0 I L R0 0 0))  (fun x e => V_X9_worthOf_125  hr e) (fun _ e => e) e0) (oP_bind (f := fun q => _) kk)
def F_X9_worthOf (I : WI) (L : WL) (a1 : Int32) (a2 : Int32) (a3 : Int32) : Option Int32 :=
  (F_X9_worthOf_17 I L a1 a2 a3 (L 33 2) a1 1 (a2 - 1))
theorem V_X9_worthOf  {I : WI} {L : WL} {a1 : Int32} {a2 : Int32} {a3 : Int32}  {P : Int32 → Prop} {t : Tg} (hr : ∀ v, P v → t = (some (.int v), ly0, I, L, R0)) : oP P (F_X9_worthOf I L a1 a2 a3) → V (zM x_X9_worthOf 3 0 0 t) 0 [(0, .ref 33), (1, .int a1), (2, .int a2), (3, .int a3)] [] ly0 I L R0 0 0 :=
  fun _ =>
  have kq : (oP P (F_X9_worthOf I L a1 a2 a3)) ∧ True := ⟨by assumption, trivial⟩
  V_aload_n (tat ok_X9_worthOf_0 (i := 0) (q := 1) rfl rfl) 0 rfl rfl <|
    V_getL (tat ok_X9_worthOf_0 (i := 1) (q := 4) rfl rfl) fk_X9_80 rfl <|
    V_lstore (lv' := [(4, .long (L 33 2)), (0, .ref 33), (1, .int a1), (2, .int a2), (3, .int a3)]) (tat ok_X9_worthOf_0 (i := 2) (q := 6) rfl rfl) (Nat.le_of_ble_eq_true rfl) rfl <|
    V_iload_n (tat ok_X9_worthOf_0 (i := 3) (q := 7) rfl rfl) 2 rfl rfl <|
    V_istore (lv' := [(6, .int a1), (4, .long (L 33 2)), (0, .ref 33), (1, .int a1), (2, .int a2), (3, .int a3)]) (tat ok_X9_worthOf_0 (i := 4) (q := 9) rfl rfl) (Nat.le_of_ble_eq_true rfl) rfl <|
    V_iconst (tat ok_X9_worthOf_0 (i := 5) (q := 10) rfl rfl) ic_1 <|
    V_istore (lv' := [(7, .int 1), (6, .int a1), (4, .long (L 33 2)), (0, .ref 33), (1, .int a1), (2, .int a2), (3, .int a3)]) (tat ok_X9_worthOf_0 (i := 6) (q := 12) rfl rfl) (Nat.le_of_ble_eq_true rfl) rfl <|
    V_iload_n (tat ok_X9_worthOf_0 (i := 7) (q := 13) rfl rfl) 5 rfl rfl <|
    V_iconst (tat ok_X9_worthOf_0 (i := 8) (q := 14) rfl rfl) ic_1 <|
    V_isub (tat ok_X9_worthOf_0 (i := 9) (q := 15) rfl rfl) <|
    V_istore (lv' := [(8, .int (a2 - 1)), (7, .int 1), (6, .int a1), (4, .long (L 33 2)), (0, .ref 33), (1, .int a1), (2, .int a2), (3, .int a3)]) (tat ok_X9_worthOf_0 (i := 10) (q := 17) rfl rfl) (Nat.le_of_ble_eq_true rfl) rfl <|
    V_pick [4, 5, 6, 7, 3, 2, 1, 0] rfl (V_X9_worthOf_17 rfl hr (jq (P := oP P) kq rfl))
theorem ct_X9_worthOf  (I : WI) (L : WL) (a1 : Int32) (a2 : Int32) (a3 : Int32)  {v : Int32} (h : (F_X9_worthOf I L a1 a2 a3) = some v) : Ct x_X9_worthOf 3 [.ref 33, .int a1, .int a2, .int a3] ly0 I L R0 0 0 (some (.int v), ly0, I, L, R0) :=
  Ct_of_V mo_X9_worthOf.1 (Nat.le_of_ble_eq_true rfl) (V_X9_worthOf (P := fun x => x = v)  (fun _ e => by rw [e]) (by rw [h]; exact rfl))
def F_X9_best_88_1 (I : WI) (a1 : Int32) (a2 : Int32) (a4 : Int32) (s0 : Int32) : Option Int32 :=
  some s0
theorem V_X9_best_88_1  {I : WI} {L : WL} {a1 : Int32} {a2 : Int32} {a4 : Int32} {s0 : Int32} {P : Int32 → Prop} {t : Tg} (hk : ∀ x : Int32, P x → V (zM x_X9_best 1 0 0 t) 6 [(0, .ref 33), (1, .int a1), (2, .int a2), (3, .int x), (4, .int (a4 + 1))] [] ly0 I L R0 0 0) : oP P (F_X9_best_88_1 I a1 a2 a4 s0) → V (zM x_X9_best 1 0 0 t) 88 [(0, .ref 33), (1, .int a1), (2, .int a2), (4, .int a4)] [.int s0] ly0 I L R0 0 0 :=
  fun _ =>
  have kq : (oP P (F_X9_best_88_1 I a1 a2 a4 s0)) ∧ True := ⟨by assumption, trivial⟩
  V_istore_n (lv' := [(3, .int s0), (0, .ref 33), (1, .int a1), (2, .int a2), (4, .int a4)]) (tat ok_X9_best_1 (i := 8) (q := 89) rfl rfl) rfl (Nat.le_of_ble_eq_true rfl) rfl <|
    V_iinc (v := (a4 + 1)) (lv' := [(4, .int (a4 + 1)), (3, .int s0), (0, .ref 33), (1, .int a1), (2, .int a2)]) (tat ok_X9_best_1 (i := 9) (q := 92) rfl rfl) 4 rfl (ia ic_1) (Nat.le_of_ble_eq_true rfl) rfl <|
    V_goto (tat ok_X9_best_1 (i := 10) (q := 95) rfl rfl) rfl <|
    V_pick [2, 3, 4, 1, 0] rfl (hk s0 (jq (P := oP P) kq rfl))
def F_X9_best_75_1 (I : WI) (a1 : Int32) (a2 : Int32) (a4 : Int32) (a3 : Int32) (s0 : Int32) : Option Int32 :=
  (if s0 = 0 then (F_X9_best_88_1 I a1 a2 a4 a3) else (F_X9_best_88_1 I a1 a2 a4 a4))
theorem V_X9_best_75_1  {I : WI} {L : WL} {a1 : Int32} {a2 : Int32} {a4 : Int32} {a3 : Int32} {s0 : Int32} {P : Int32 → Prop} {t : Tg} (hs0 : bz s0 = s0) (hk : ∀ x : Int32, P x → V (zM x_X9_best 1 0 0 t) 6 [(0, .ref 33), (1, .int a1), (2, .int a2), (3, .int x), (4, .int (a4 + 1))] [] ly0 I L R0 0 0) : oP P (F_X9_best_75_1 I a1 a2 a4 a3 s0) → V (zM x_X9_best 1 0 0 t) 75 [(0, .ref 33), (1, .int a1), (2, .int a2), (3, .int a3), (4, .int a4)] [.int s0] ly0 I L R0 0 0 :=
  fun _ =>
  have kq : (oP P (F_X9_best_75_1 I a1 a2 a4 a3 s0)) ∧ True := ⟨by assumption, trivial⟩
  V_istore (lv' := [(6, .int s0), (0, .ref 33), (1, .int a1), (2, .int a2), (3, .int a3), (4, .int a4)]) (tat ok_X9_best_1 (i := 2) (q := 77) rfl rfl) (Nat.le_of_ble_eq_true rfl) rfl <|
    V_iload (tat ok_X9_best_1 (i := 3) (q := 79) rfl rfl) 0 rfl <|
    V_if_eq (tat ok_X9_best_1 (i := 4) (q := 82) rfl rfl) rfl (fun c3 => V_iload_n (tat ok_X9_best_1 (i := 7) (q := 88) rfl rfl) 4 rfl rfl <|
    V_pick [1, 2, 3, 5] rfl (V_X9_best_88_1  hk (jq (P := oP P) kq (if_pos c3)))) (fun c3 => V_iload (tat ok_X9_best_1 (i := 5) (q := 84) rfl rfl) 5 rfl <|
    V_goto (tat ok_X9_best_1 (i := 6) (q := 87) rfl rfl) rfl <|
    V_pick [1, 2, 3, 5] rfl (V_X9_best_88_1  hk (jq (P := oP P) kq (if_neg c3))))
def F_X9_best_74_1 (I : WI) (a1 : Int32) (a2 : Int32) (a4 : Int32) (a3 : Int32) : Option Int32 :=
  (F_X9_best_75_1 I a1 a2 a4 a3 0)
theorem V_X9_best_74_1  {I : WI} {L : WL} {a1 : Int32} {a2 : Int32} {a4 : Int32} {a3 : Int32} {P : Int32 → Prop} {t : Tg} (hk : ∀ x : Int32, P x → V (zM x_X9_best 1 0 0 t) 6 [(0, .ref 33), (1, .int a1), (2, .int a2), (3, .int x), (4, .int (a4 + 1))] [] ly0 I L R0 0 0) : oP P (F_X9_best_74_1 I a1 a2 a4 a3) → V (zM x_X9_best 1 0 0 t) 74 [(0, .ref 33), (1, .int a1), (2, .int a2), (3, .int a3), (4, .int a4)] [] ly0 I L R0 0 0 :=
  fun _ =>
  have kq : (oP P (F_X9_best_74_1 I a1 a2 a4 a3)) ∧ True := ⟨by assumption, trivial⟩
  V_iconst (tat ok_X9_best_1 (i := 1) (q := 75) rfl rfl) ic_0 <|
    V_X9_best_75_1 rfl hk (jq (P := oP P) kq rfl)
def F_X9_best_70_1 (I : WI) (a1 : Int32) (a2 : Int32) (a4 : Int32) (a3 : Int32) : Option Int32 :=
  (F_X9_best_75_1 I a1 a2 a4 a3 1)
theorem V_X9_best_70_1  {I : WI} {L : WL} {a1 : Int32} {a2 : Int32} {a4 : Int32} {a3 : Int32} {P : Int32 → Prop} {t : Tg} (hk : ∀ x : Int32, P x → V (zM x_X9_best 1 0 0 t) 6 [(0, .ref 33), (1, .int a1), (2, .int a2), (3, .int x), (4, .int (a4 + 1))] [] ly0 I L R0 0 0) : oP P (F_X9_best_70_1 I a1 a2 a4 a3) → V (zM x_X9_best 1 0 0 t) 70 [(0, .ref 33), (1, .int a1), (2, .int a2), (3, .int a3), (4, .int a4)] [] ly0 I L R0 0 0 :=
  fun _ =>
  have kq : (oP P (F_X9_best_70_1 I a1 a2 a4 a3)) ∧ True := ⟨by assumption, trivial⟩
  V_iconst (tat ok_X9_best_0 (i := 39) (q := 71) rfl rfl) ic_1 <|
    V_goto (tat ok_X9_best_1 (i := 0) (q := 74) rfl rfl) rfl <|
    V_X9_best_75_1 rfl hk (jq (P := oP P) kq rfl)
def F_X9_best_13_1 (I : WI) (a1 : Int32) (a2 : Int32) (a4 : Int32) (a3 : Int32) : Option Int32 :=
  (if (a1 + a4) < 0 ∨ 6561 ≤ Int32.toNatClampNeg (a1 + a4) then none else (if (I 41 (Int32.toNatClampNeg (a1 + a4))) = (-4) then (F_X9_best_74_1 I a1 a2 a4 a3) else (if a3 = (-4) then (F_X9_best_70_1 I a1 a2 a4 a3) else (if a2 = 0 then (if (a1 + a3) < 0 ∨ 6561 ≤ Int32.toNatClampNeg (a1 + a3) then none else (if (I 41 (Int32.toNatClampNeg (a1 + a3))) ≤ (I 41 (Int32.toNatClampNeg (a1 + a4))) then (F_X9_best_74_1 I a1 a2 a4 a3) else (F_X9_best_70_1 I a1 a2 a4 a3))) else (if (a1 + a3) < 0 ∨ 6561 ≤ Int32.toNatClampNeg (a1 + a3) then none else (if (I 41 (Int32.toNatClampNeg (a1 + a4))) ≤ (I 41 (Int32.toNatClampNeg (a1 + a3))) then (F_X9_best_74_1 I a1 a2 a4 a3) else (F_X9_best_70_1 I a1 a2 a4 a3)))))))
theorem V_X9_best_13_1  {I : WI} {L : WL} {a1 : Int32} {a2 : Int32} {a4 : Int32} {a3 : Int32} {P : Int32 → Prop} {t : Tg} (hk : ∀ x : Int32, P x → V (zM x_X9_best 1 0 0 t) 6 [(0, .ref 33), (1, .int a1), (2, .int a2), (3, .int x), (4, .int (a4 + 1))] [] ly0 I L R0 0 0) : oP P (F_X9_best_13_1 I a1 a2 a4 a3) → V (zM x_X9_best 1 0 0 t) 13 [(0, .ref 33), (1, .int a1), (2, .int a2), (3, .int a3), (4, .int a4)] [] ly0 I L R0 0 0 :=
  fun _ =>
  have kq : (oP P (F_X9_best_13_1 I a1 a2 a4 a3)) ∧ True := ⟨by assumption, trivial⟩
  V_aload_n (tat ok_X9_best_0 (i := 7) (q := 14) rfl rfl) 0 rfl rfl <|
    V_getR (tat ok_X9_best_0 (i := 8) (q := 17) rfl rfl) fk_X9_32 rfl rfl <|
    V_iload_n (tat ok_X9_best_0 (i := 9) (q := 18) rfl rfl) 1 rfl rfl <|
    V_iload (tat ok_X9_best_0 (i := 10) (q := 20) rfl rfl) 4 rfl <|
    V_iadd (tat ok_X9_best_0 (i := 11) (q := 21) rfl rfl) <|
    (if c1 : (a1 + a4) < 0 ∨ 6561 ≤ Int32.toNatClampNeg (a1 + a4) then ((jq (P := oP P) kq (if_pos c1))).elim else V_iald (tat ok_X9_best_0 (i := 12) (q := 22) rfl rfl) rfl c1 <|
    V_istore (lv' := [(5, .int (I 41 (Int32.toNatClampNeg (a1 + a4)))), (0, .ref 33), (1, .int a1), (2, .int a2), (3, .int a3), (4, .int a4)]) (tat ok_X9_best_0 (i := 13) (q := 24) rfl rfl) (Nat.le_of_ble_eq_true rfl) rfl <|
    V_iload (tat ok_X9_best_0 (i := 14) (q := 26) rfl rfl) 0 rfl <|
    V_bipush (tat ok_X9_best_0 (i := 15) (q := 28) rfl rfl) bp_m4 <|
    V_icmp_eq (tat ok_X9_best_0 (i := 16) (q := 31) rfl rfl) rfl (fun c2 => V_pick [1, 2, 3, 4, 5] rfl (V_X9_best_74_1  hk (jq (P := oP P) kq (Eq.trans (if_neg c1) (if_pos c2))))) (fun c2 => V_iload_n (tat ok_X9_best_0 (i := 17) (q := 32) rfl rfl) 4 rfl rfl <|
    V_bipush (tat ok_X9_best_0 (i := 18) (q := 34) rfl rfl) bp_m4 <|
    V_icmp_eq (tat ok_X9_best_0 (i := 19) (q := 37) rfl rfl) rfl (fun c4 => V_pick [1, 2, 3, 4, 5] rfl (V_X9_best_70_1  hk (jq (P := oP P) kq (Eq.trans (if_neg c1) (Eq.trans (if_neg c2) (if_pos c4)))))) (fun c4 => V_iload_n (tat ok_X9_best_0 (i := 20) (q := 38) rfl rfl) 3 rfl rfl <|
    V_if_eq (tat ok_X9_best_0 (i := 21) (q := 41) rfl rfl) rfl (fun c5 => V_iload (tat ok_X9_best_0 (i := 31) (q := 59) rfl rfl) 0 rfl <|
    V_aload_n (tat ok_X9_best_0 (i := 32) (q := 60) rfl rfl) 1 rfl rfl <|
    V_getR (tat ok_X9_best_0 (i := 33) (q := 63) rfl rfl) fk_X9_32 rfl rfl <|
    V_iload_n (tat ok_X9_best_0 (i := 34) (q := 64) rfl rfl) 2 rfl rfl <|
    V_iload_n (tat ok_X9_best_0 (i := 35) (q := 65) rfl rfl) 4 rfl rfl <|
    V_iadd (tat ok_X9_best_0 (i := 36) (q := 66) rfl rfl) <|
    (if c6 : (a1 + a3) < 0 ∨ 6561 ≤ Int32.toNatClampNeg (a1 + a3) then ((jq (P := oP P) kq (Eq.trans (if_neg c1) (Eq.trans (if_neg c2) (Eq.trans (if_neg c4) (Eq.trans (if_pos c5) (if_pos c6))))))).elim else V_iald (tat ok_X9_best_0 (i := 37) (q := 67) rfl rfl) rfl c6 <|
    V_icmp_ge (tat ok_X9_best_0 (i := 38) (q := 70) rfl rfl) rfl (fun c7 => V_pick [1, 2, 3, 4, 5] rfl (V_X9_best_74_1  hk (jq (P := oP P) kq (Eq.trans (if_neg c1) (Eq.trans (if_neg c2) (Eq.trans (if_neg c4) (Eq.trans (if_pos c5) (Eq.trans (if_neg c6) (if_pos c7))))))))) (fun c7 => V_pick [1, 2, 3, 4, 5] rfl (V_X9_best_70_1  hk (jq (P := oP P) kq (Eq.trans (if_neg c1) (Eq.trans (if_neg c2) (Eq.trans (if_neg c4) (Eq.trans (if_pos c5) (Eq.trans (if_neg c6) (if_neg c7))))))))))) (fun c5 => V_iload (tat ok_X9_best_0 (i := 22) (q := 43) rfl rfl) 0 rfl <|
    V_aload_n (tat ok_X9_best_0 (i := 23) (q := 44) rfl rfl) 1 rfl rfl <|
    V_getR (tat ok_X9_best_0 (i := 24) (q := 47) rfl rfl) fk_X9_32 rfl rfl <|
    V_iload_n (tat ok_X9_best_0 (i := 25) (q := 48) rfl rfl) 2 rfl rfl <|
    V_iload_n (tat ok_X9_best_0 (i := 26) (q := 49) rfl rfl) 4 rfl rfl <|
    V_iadd (tat ok_X9_best_0 (i := 27) (q := 50) rfl rfl) <|
    (if c8 : (a1 + a3) < 0 ∨ 6561 ≤ Int32.toNatClampNeg (a1 + a3) then ((jq (P := oP P) kq (Eq.trans (if_neg c1) (Eq.trans (if_neg c2) (Eq.trans (if_neg c4) (Eq.trans (if_neg c5) (if_pos c8))))))).elim else V_iald (tat ok_X9_best_0 (i := 28) (q := 51) rfl rfl) rfl c8 <|
    V_icmp_le (tat ok_X9_best_0 (i := 29) (q := 54) rfl rfl) rfl (fun c9 => V_pick [1, 2, 3, 4, 5] rfl (V_X9_best_74_1  hk (jq (P := oP P) kq (Eq.trans (if_neg c1) (Eq.trans (if_neg c2) (Eq.trans (if_neg c4) (Eq.trans (if_neg c5) (Eq.trans (if_neg c8) (if_pos c9))))))))) (fun c9 => V_goto (tat ok_X9_best_0 (i := 30) (q := 57) rfl rfl) rfl <|
    V_pick [1, 2, 3, 4, 5] rfl (V_X9_best_70_1  hk (jq (P := oP P) kq (Eq.trans (if_neg c1) (Eq.trans (if_neg c2) (Eq.trans (if_neg c4) (Eq.trans (if_neg c5) (Eq.trans (if_neg c8) (if_neg c9))))))))))))))
def F_X9_best_95 (I : WI) (a1 : Int32) (a2 : Int32) (a3 : Int32) : Option Int32 :=
  some a3
theorem V_X9_best_95  {I : WI} {L : WL} {a1 : Int32} {a2 : Int32} {a3 : Int32} {P : Int32 → Prop} {t : Tg} (hr : ∀ v, P v → t = (some (.int v), ly0, I, L, R0)) : oP P (F_X9_best_95 I a1 a2 a3) → V (zM x_X9_best 1 0 0 t) 95 [(0, .ref 33), (1, .int a1), (2, .int a2), (3, .int a3)] [] ly0 I L R0 0 0 :=
  fun _ =>
  have kq : (oP P (F_X9_best_95 I a1 a2 a3)) ∧ True := ⟨by assumption, trivial⟩
  V_iload_n (tat ok_X9_best_1 (i := 11) (q := 96) rfl rfl) 3 rfl rfl <|
    V_iret (tat ok_X9_best_1 (i := 12) (q := 97) rfl rfl) _ rfl (nar_int _) (hr a3 (jq (P := oP P) kq rfl)) ⟨(Nat.le_of_ble_eq_true rfl), (Nat.le_of_ble_eq_true rfl)⟩
def F_X9_best_6 (I : WI) (a1 : Int32) (a2 : Int32) (a3 : Int32) (a4 : Int32) : Option Int32 :=
  (frp0 (fun i x => (F_X9_best_13_1 I a1 a2 i x)) 9 (fu a4 9) a4 a3).bind (fun q => (F_X9_best_95 I a1 a2 (p2 q)))
theorem V_X9_best_6  {I : WI} {L : WL} {a1 : Int32} {a2 : Int32} {a3 : Int32} {a4 : Int32} {P : Int32 → Prop} {t : Tg} (hb4 : bz a4 = a4) (hr : ∀ v, P v → t = (some (.int v), ly0, I, L, R0)) (kk : oP P (F_X9_best_6 I a1 a2 a3 a4)) : V (zM x_X9_best 1 0 0 t) 6 [(0, .ref 33), (1, .int a1), (2, .int a2), (3, .int a3), (4, .int a4)] [] ly0 I L R0 0 0 :=
  V_frp0 (fun i x => (F_X9_best_13_1 I a1 a2 i x)) 9 (fun i x => V (zM x_X9_best 1 0 0 t) 6 [(0, .ref 33), (1, .int a1), (2, .int a2), (3, .int x), (4, .int i)] [] ly0 I L R0 0 0) (fun i x => oP P ((F_X9_best_95 I a1 a2 x))) (c := a4) (s := a3) (fun i x kx kb => V_iload (tat ok_X9_best_0 (i := 4) (q := 8) rfl rfl) 4 rfl <|
    V_bipush (tat ok_X9_best_0 (i := 5) (q := 10) rfl rfl) bp_9 <|
    V_icmp_ge (tat ok_X9_best_0 (i := 6) (q := 13) rfl rfl) rfl (fun c0 => V_pick [0, 1, 2, 3] rfl (V_X9_best_95  hr (kx c0))) (fun c0 => V_X9_best_13_1 (P := (fun x => (fun i x => V (zM x_X9_best 1 0 0 t) 6 [(0, .ref 33), (1, .int a1), (2, .int a2), (3, .int x), (4, .int i)] [] ly0 I L R0 0 0) (i + 1) x))  (fun _ e => e) (kb c0))) (oP_bind (f := fun q => _) kk)
def F_X9_best (I : WI) (a1 : Int32) (a2 : Int32) : Option Int32 :=
  (F_X9_best_6 I a1 a2 (-4) 0)
theorem V_X9_best  {I : WI} {L : WL} {a1 : Int32} {a2 : Int32}  {P : Int32 → Prop} {t : Tg} (hr : ∀ v, P v → t = (some (.int v), ly0, I, L, R0)) : oP P (F_X9_best I a1 a2) → V (zM x_X9_best 1 0 0 t) 0 [(0, .ref 33), (1, .int a1), (2, .int a2)] [] ly0 I L R0 0 0 :=
  fun _ =>
  have kq : (oP P (F_X9_best I a1 a2)) ∧ True := ⟨by assumption, trivial⟩
  V_bipush (tat ok_X9_best_0 (i := 0) (q := 2) rfl rfl) bp_m4 <|
    V_istore_n (lv' := [(3, .int (-4)), (0, .ref 33), (1, .int a1), (2, .int a2)]) (tat ok_X9_best_0 (i := 1) (q := 3) rfl rfl) rfl (Nat.le_of_ble_eq_true rfl) rfl <|
    V_iconst (tat ok_X9_best_0 (i := 2) (q := 4) rfl rfl) ic_0 <|
    V_istore (lv' := [(4, .int 0), (3, .int (-4)), (0, .ref 33), (1, .int a1), (2, .int a2)]) (tat ok_X9_best_0 (i := 3) (q := 6) rfl rfl) (Nat.le_of_ble_eq_true rfl) rfl <|
    V_pick [2, 3, 4, 1, 0] rfl (V_X9_best_6 rfl hr (jq (P := oP P) kq rfl))
theorem ct_X9_best  (I : WI) (L : WL) (a1 : Int32) (a2 : Int32)  {v : Int32} (h : (F_X9_best I a1 a2) = some v) : Ct x_X9_best 1 [.ref 33, .int a1, .int a2] ly0 I L R0 0 0 (some (.int v), ly0, I, L, R0) :=
  Ct_of_V mo_X9_best.1 (Nat.le_of_ble_eq_true rfl) (V_X9_best (P := fun x => x = v)  (fun _ e => by rw [e]) (by rw [h]; exact rfl))
def F_X9_duel_22 (I : WI) (L : WL) (a1 : Int32) (a2 : Int32) (a3 : Int32) : Option (Int32 × WI) :=
  some ((-1), I)
theorem V_X9_duel_22  {I : WI} {L : WL} {a1 : Int32} {a2 : Int32} {a3 : Int32}  {P : (Int32 × WI) → Prop} {t : Tg} (hr : ∀ v, P v → t = (some (.int (p1 v)), ly0, (p2 v), L, R0)) : oP P (F_X9_duel_22 I L a1 a2 a3) → V (zM x_X9_duel 4 0 0 t) 22 [(0, .ref 33), (1, .int a1), (2, .int a2), (3, .int a3)] [] ly0 I L R0 0 0 :=
  fun _ =>
  have kq : (oP P (F_X9_duel_22 I L a1 a2 a3)) ∧ True := ⟨by assumption, trivial⟩
  V_iconst (tat ok_X9_duel_0 (i := 12) (q := 23) rfl rfl) ic_m1 <|
    V_iret (tat ok_X9_duel_0 (i := 13) (q := 24) rfl rfl) _ rfl (nar_int _) (hr ((-1), I) (jq (P := oP P) kq rfl)) ⟨(Nat.le_of_ble_eq_true rfl), (Nat.le_of_ble_eq_true rfl)⟩
def F_X9_duel_36_1 (I : WI) (L : WL) (a1 : Int32) (a2 : Int32) (a3 : Int32) (a5 : Int32) (a4 : Int32) : Option Int32 :=
  some (a4 * 9)
theorem V_X9_duel_36_1  {I : WI} {L : WL} {a1 : Int32} {a2 : Int32} {a3 : Int32} {a5 : Int32} {a4 : Int32} {P : Int32 → Prop} {t : Tg} (hk : ∀ x : Int32, P x → V (zM x_X9_duel 4 0 0 t) 30 [(0, .ref 33), (1, .int a1), (2, .int a2), (3, .int a3), (4, .int x), (5, .int (a5 + 1))] [] ly0 I L R0 0 0) : oP P (F_X9_duel_36_1 I L a1 a2 a3 a5 a4) → V (zM x_X9_duel 4 0 0 t) 36 [(0, .ref 33), (1, .int a1), (2, .int a2), (3, .int a3), (4, .int a4), (5, .int a5)] [] ly0 I L R0 0 0 :=
  fun _ =>
  have kq : (oP P (F_X9_duel_36_1 I L a1 a2 a3 a5 a4)) ∧ True := ⟨by assumption, trivial⟩
  V_iload (tat ok_X9_duel_0 (i := 21) (q := 38) rfl rfl) 4 rfl <|
    V_bipush (tat ok_X9_duel_0 (i := 22) (q := 40) rfl rfl) bp_9 <|
    V_imul (tat ok_X9_duel_0 (i := 23) (q := 41) rfl rfl) <|
    V_istore (lv' := [(4, .int (a4 * 9)), (0, .ref 33), (1, .int a1), (2, .int a2), (3, .int a3), (5, .int a5)]) (tat ok_X9_duel_0 (i := 24) (q := 43) rfl rfl) (Nat.le_of_ble_eq_true rfl) rfl <|
    V_iinc (v := (a5 + 1)) (lv' := [(5, .int (a5 + 1)), (4, .int (a4 * 9)), (0, .ref 33), (1, .int a1), (2, .int a2), (3, .int a3)]) (tat ok_X9_duel_0 (i := 25) (q := 46) rfl rfl) 5 rfl (ia ic_1) (Nat.le_of_ble_eq_true rfl) rfl <|
    V_goto (tat ok_X9_duel_0 (i := 26) (q := 49) rfl rfl) rfl <|
    V_pick [2, 3, 4, 5, 1, 0] rfl (hk (a4 * 9) (jq (P := oP P) kq rfl))
def F_X9_duel_59_2 (I : WI) (L : WL) (a1 : Int32) (a2 : Int32) (a3 : Int32) (a4 : Int32) (a5 : Int32) : Option WI :=
  (Option.bind (F_X9_worthOf I L a5 a1 a2) (fun v3 => (if a5 < 0 ∨ 6561 ≤ Int32.toNatClampNeg a5 then none else some (u2 I 41 (Int32.toNatClampNeg a5) v3))))
theorem V_X9_duel_59_2  {I : WI} {L : WL} {a1 : Int32} {a2 : Int32} {a3 : Int32} {a4 : Int32} {a5 : Int32}  {P : WI → Prop} {t : Tg} (hk : ∀ x : WI, P x → V (zM x_X9_duel 4 0 0 t) 52 [(0, .ref 33), (1, .int a1), (2, .int a2), (3, .int a3), (4, .int a4), (5, .int (a5 + 1))] [] ly0 x L R0 0 0) : oP P (F_X9_duel_59_2 I L a1 a2 a3 a4 a5) → V (zM x_X9_duel 4 0 0 t) 59 [(0, .ref 33), (1, .int a1), (2, .int a2), (3, .int a3), (4, .int a4), (5, .int a5)] [] ly0 I L R0 0 0 :=
  fun _ =>
  have kq : (oP P (F_X9_duel_59_2 I L a1 a2 a3 a4 a5)) ∧ True := ⟨by assumption, trivial⟩
  V_aload_n (tat ok_X9_duel_0 (i := 32) (q := 60) rfl rfl) 0 rfl rfl <|
    V_getR (tat ok_X9_duel_0 (i := 33) (q := 63) rfl rfl) fk_X9_32 rfl rfl <|
    V_iload (tat ok_X9_duel_0 (i := 34) (q := 65) rfl rfl) 5 rfl <|
    V_aload_n (tat ok_X9_duel_0 (i := 35) (q := 66) rfl rfl) 0 rfl rfl <|
    V_iload (tat ok_X9_duel_0 (i := 36) (q := 68) rfl rfl) 5 rfl <|
    V_iload_n (tat ok_X9_duel_0 (i := 37) (q := 69) rfl rfl) 1 rfl rfl <|
    V_iload_n (tat ok_X9_duel_0 (i := 38) (q := 70) rfl rfl) 2 rfl rfl <|
    oP_case (jq (P := oP P) kq rfl) (fun v3 e3 _ => V_cv3 (ct_X9_worthOf I L a5 a1 a2  e3) mo_X9_worthOf (tat ok_X9_duel_0 (i := 39) (q := 73) rfl rfl) ml_X9_293 rfl ⟨by decide, _, rfl, rfl⟩ ⟨(Nat.le_of_ble_eq_true rfl), (Nat.le_of_ble_eq_true rfl)⟩ ⟨(Nat.le_of_ble_eq_true rfl), (Nat.le_of_ble_eq_true rfl)⟩ (Nat.le_of_ble_eq_true rfl) <|
    (if c4 : a5 < 0 ∨ 6561 ≤ Int32.toNatClampNeg a5 then ((jq (P := oP P) kq (Eq.trans (ob e3) (if_pos c4)))).elim else V_iast (tat ok_X9_duel_1 (i := 0) (q := 74) rfl rfl) rfl c4 <|
    V_iinc (v := (a5 + 1)) (lv' := [(5, .int (a5 + 1)), (0, .ref 33), (1, .int a1), (2, .int a2), (3, .int a3), (4, .int a4)]) (tat ok_X9_duel_1 (i := 1) (q := 77) rfl rfl) 5 rfl (ia ic_1) (Nat.le_of_ble_eq_true rfl) rfl <|
    V_goto (tat ok_X9_duel_1 (i := 2) (q := 80) rfl rfl) rfl <|
    V_pick [1, 2, 3, 4, 5, 0] rfl (hk (u2 I 41 (Int32.toNatClampNeg a5) v3) (jq (P := oP P) kq (Eq.trans (ob e3) (if_neg c4))))))
def F_X9_duel_176_4 (I : WI) (L : WL) (a1 : Int32) (a2 : Int32) (a3 : Int32) (a4 : Int32) (a5 : Int32) (a6 : Int32) (s0 : Int32) (s1 : Int32) : Option WI :=
  (if s1 < 0 ∨ 6561 ≤ Int32.toNatClampNeg s1 then none else some (u2 I 41 (Int32.toNatClampNeg s1) s0))
theorem V_X9_duel_176_4  {I : WI} {L : WL} {a1 : Int32} {a2 : Int32} {a3 : Int32} {a4 : Int32} {a5 : Int32} {a6 : Int32} {s0 : Int32} {s1 : Int32} {P : WI → Prop} {t : Tg} (hk : ∀ x : WI, P x → V (zM x_X9_duel 4 0 0 t) 100 [(0, .ref 33), (1, .int a1), (2, .int a2), (3, .int a3), (4, .int a4), (5, .int a5), (6, .int (a6 + 1))] [] ly0 x L R0 0 0) : oP P (F_X9_duel_176_4 I L a1 a2 a3 a4 a5 a6 s0 s1) → V (zM x_X9_duel 4 0 0 t) 176 [(0, .ref 33), (1, .int a1), (2, .int a2), (3, .int a3), (4, .int a4), (5, .int a5), (6, .int a6)] [.int s0, .int s1, .ref 41] ly0 I L R0 0 0 :=
  fun _ =>
  have kq : (oP P (F_X9_duel_176_4 I L a1 a2 a3 a4 a5 a6 s0 s1)) ∧ True := ⟨by assumption, trivial⟩
  (if c10 : s1 < 0 ∨ 6561 ≤ Int32.toNatClampNeg s1 then ((jq (P := oP P) kq (if_pos c10))).elim else V_iast (tat ok_X9_duel_2 (i := 15) (q := 177) rfl rfl) rfl c10 <|
    V_iinc (v := (a6 + 1)) (lv' := [(6, .int (a6 + 1)), (0, .ref 33), (1, .int a1), (2, .int a2), (3, .int a3), (4, .int a4), (5, .int a5)]) (tat ok_X9_duel_2 (i := 16) (q := 180) rfl rfl) 6 rfl (ia ic_1) (Nat.le_of_ble_eq_true rfl) rfl <|
    V_goto (tat ok_X9_duel_2 (i := 17) (q := 183) rfl rfl) rfl <|
    V_pick [1, 2, 3, 4, 5, 6, 0] rfl (hk (u2 I 41 (Int32.toNatClampNeg s1) s0) (jq (P := oP P) kq (if_neg c10))))
def F_X9_duel_134_4 (I : WI) (L : WL) (a1 : Int32) (a2 : Int32) (a3 : Int32) (a4 : Int32) (a5 : Int32) (a6 : Int32) (s0 : Int32) (s1 : Int32) : Option WI :=
  (Option.bind (F_X9_best I s1 s0) (fun v8 => (if v8 = (-4) then (F_X9_duel_176_4 (u2 I 33 38 v8) L a1 a2 a3 a4 a5 a6 (-4) a6) else (if ((9 * a6) + v8) < 0 ∨ 6561 ≤ Int32.toNatClampNeg ((9 * a6) + v8) then none else (F_X9_duel_176_4 (u2 I 33 38 v8) L a1 a2 a3 a4 a5 a6 ((u2 I 33 38 v8) 41 (Int32.toNatClampNeg ((9 * a6) + v8))) a6)))))
theorem V_X9_duel_134_4  {I : WI} {L : WL} {a1 : Int32} {a2 : Int32} {a3 : Int32} {a4 : Int32} {a5 : Int32} {a6 : Int32} {s0 : Int32} {s1 : Int32} {P : WI → Prop} {t : Tg} (hs0 : bz s0 = s0) (hk : ∀ x : WI, P x → V (zM x_X9_duel 4 0 0 t) 100 [(0, .ref 33), (1, .int a1), (2, .int a2), (3, .int a3), (4, .int a4), (5, .int a5), (6, .int (a6 + 1))] [] ly0 x L R0 0 0) : oP P (F_X9_duel_134_4 I L a1 a2 a3 a4 a5 a6 s0 s1) → V (zM x_X9_duel 4 0 0 t) 134 [(0, .ref 33), (1, .int a1), (2, .int a2), (3, .int a3), (4, .int a4), (5, .int a5), (6, .int a6)] [.int s0, .int s1, .ref 33] ly0 I L R0 0 0 :=
  fun _ =>
  have kq : (oP P (F_X9_duel_134_4 I L a1 a2 a3 a4 a5 a6 s0 s1)) ∧ True := ⟨by assumption, trivial⟩
  oP_case (jq (P := oP P) kq rfl) (fun v8 e8 _ => V_cv2 (ct_X9_best I L s1 s0  e8) mo_X9_best (tat ok_X9_duel_1 (i := 34) (q := 137) rfl rfl) ml_X9_297 rfl ⟨by decide, _, rfl, rfl⟩ ⟨(Nat.le_of_ble_eq_true rfl), (Nat.le_of_ble_eq_true rfl)⟩ ⟨(Nat.le_of_ble_eq_true rfl), (Nat.le_of_ble_eq_true rfl)⟩ (Nat.le_of_ble_eq_true rfl) <|
    V_istore (lv' := [(7, .int v8), (0, .ref 33), (1, .int a1), (2, .int a2), (3, .int a3), (4, .int a4), (5, .int a5), (6, .int a6)]) (tat ok_X9_duel_1 (i := 35) (q := 139) rfl rfl) (Nat.le_of_ble_eq_true rfl) rfl <|
    V_aload_n (tat ok_X9_duel_1 (i := 36) (q := 140) rfl rfl) 1 rfl rfl <|
    V_iload (tat ok_X9_duel_1 (i := 37) (q := 142) rfl rfl) 0 rfl <|
    V_putI (tat ok_X9_duel_1 (i := 38) (q := 145) rfl rfl) fk_X9_301 rfl rfl <|
    V_aload_n (tat ok_X9_duel_1 (i := 39) (q := 146) rfl rfl) 1 rfl rfl <|
    V_getR (tat ok_X9_duel_2 (i := 0) (q := 149) rfl rfl) fk_X9_32 rfl rfl <|
    V_iload (tat ok_X9_duel_2 (i := 1) (q := 151) rfl rfl) 7 rfl <|
    V_iload (tat ok_X9_duel_2 (i := 2) (q := 153) rfl rfl) 0 rfl <|
    V_bipush (tat ok_X9_duel_2 (i := 3) (q := 155) rfl rfl) bp_m4 <|
    V_icmp_ne (tat ok_X9_duel_2 (i := 4) (q := 158) rfl rfl) rfl (fun c9 => V_aload_n (tat ok_X9_duel_2 (i := 7) (q := 164) rfl rfl) 1 rfl rfl <|
    V_getR (tat ok_X9_duel_2 (i := 8) (q := 167) rfl rfl) fk_X9_32 rfl rfl <|
    V_bipush (tat ok_X9_duel_2 (i := 9) (q := 169) rfl rfl) bp_9 <|
    V_iload (tat ok_X9_duel_2 (i := 10) (q := 171) rfl rfl) 7 rfl <|
    V_imul (tat ok_X9_duel_2 (i := 11) (q := 172) rfl rfl) <|
    V_iload (tat ok_X9_duel_2 (i := 12) (q := 174) rfl rfl) 0 rfl <|
    V_iadd (tat ok_X9_duel_2 (i := 13) (q := 175) rfl rfl) <|
    (if c11 : ((9 * a6) + v8) < 0 ∨ 6561 ≤ Int32.toNatClampNeg ((9 * a6) + v8) then ((jq (P := oP P) kq (Eq.trans (ob e8) (Eq.trans (if_neg c9) (if_pos c11))))).elim else V_iald (tat ok_X9_duel_2 (i := 14) (q := 176) rfl rfl) rfl c11 <|
    V_pick [1, 2, 3, 4, 5, 6, 7] rfl (V_X9_duel_176_4  hk (jq (P := oP P) kq (Eq.trans (ob e8) (Eq.trans (if_neg c9) (if_neg c11))))))) (fun c9 => V_bipush (tat ok_X9_duel_2 (i := 5) (q := 160) rfl rfl) bp_m4 <|
    V_goto (tat ok_X9_duel_2 (i := 6) (q := 163) rfl rfl) rfl <|
    V_pick [1, 2, 3, 4, 5, 6, 7] rfl (V_X9_duel_176_4  hk (jq (P := oP P) kq (Eq.trans (ob e8) (if_pos c9))))))
def F_X9_duel_125_4 (I : WI) (L : WL) (a1 : Int32) (a2 : Int32) (a3 : Int32) (a4 : Int32) (a5 : Int32) (a6 : Int32) (s0 : Int32) (s1 : Int32) : Option WI :=
  (if s0 = a2 then (F_X9_duel_134_4 I L a1 a2 a3 a4 a5 a6 1 s1) else (F_X9_duel_134_4 I L a1 a2 a3 a4 a5 a6 0 s1))
theorem V_X9_duel_125_4  {I : WI} {L : WL} {a1 : Int32} {a2 : Int32} {a3 : Int32} {a4 : Int32} {a5 : Int32} {a6 : Int32} {s0 : Int32} {s1 : Int32} {P : WI → Prop} {t : Tg} (hs0 : bz s0 = s0) (hk : ∀ x : WI, P x → V (zM x_X9_duel 4 0 0 t) 100 [(0, .ref 33), (1, .int a1), (2, .int a2), (3, .int a3), (4, .int a4), (5, .int a5), (6, .int (a6 + 1))] [] ly0 x L R0 0 0) : oP P (F_X9_duel_125_4 I L a1 a2 a3 a4 a5 a6 s0 s1) → V (zM x_X9_duel 4 0 0 t) 125 [(0, .ref 33), (1, .int a1), (2, .int a2), (3, .int a3), (4, .int a4), (5, .int a5), (6, .int a6)] [.int s0, .int s1, .ref 33] ly0 I L R0 0 0 :=
  fun _ =>
  have kq : (oP P (F_X9_duel_125_4 I L a1 a2 a3 a4 a5 a6 s0 s1)) ∧ True := ⟨by assumption, trivial⟩
  V_iload_n (tat ok_X9_duel_1 (i := 29) (q := 126) rfl rfl) 2 rfl rfl <|
    V_icmp_ne (tat ok_X9_duel_1 (i := 30) (q := 129) rfl rfl) rfl (fun c7 => V_iconst (tat ok_X9_duel_1 (i := 33) (q := 134) rfl rfl) ic_0 <|
    V_X9_duel_134_4 rfl hk (jq (P := oP P) kq (if_neg c7))) (fun c7 => V_iconst (tat ok_X9_duel_1 (i := 31) (q := 130) rfl rfl) ic_1 <|
    V_goto (tat ok_X9_duel_1 (i := 32) (q := 133) rfl rfl) rfl <|
    V_X9_duel_134_4 rfl hk (jq (P := oP P) kq (if_pos c7)))
def F_X9_duel_107_4 (I : WI) (L : WL) (a1 : Int32) (a2 : Int32) (a3 : Int32) (a4 : Int32) (a5 : Int32) (a6 : Int32) : Option WI :=
  (if (a5 - a5 / 2 * 2) = 0 then (F_X9_duel_125_4 I L a1 a2 a3 a4 a5 a6 1 (9 * a6)) else (F_X9_duel_125_4 I L a1 a2 a3 a4 a5 a6 0 (9 * a6)))
theorem V_X9_duel_107_4  {I : WI} {L : WL} {a1 : Int32} {a2 : Int32} {a3 : Int32} {a4 : Int32} {a5 : Int32} {a6 : Int32}  {P : WI → Prop} {t : Tg} (hk : ∀ x : WI, P x → V (zM x_X9_duel 4 0 0 t) 100 [(0, .ref 33), (1, .int a1), (2, .int a2), (3, .int a3), (4, .int a4), (5, .int a5), (6, .int (a6 + 1))] [] ly0 x L R0 0 0) : oP P (F_X9_duel_107_4 I L a1 a2 a3 a4 a5 a6) → V (zM x_X9_duel 4 0 0 t) 107 [(0, .ref 33), (1, .int a1), (2, .int a2), (3, .int a3), (4, .int a4), (5, .int a5), (6, .int a6)] [] ly0 I L R0 0 0 :=
  fun _ =>
  have kq : (oP P (F_X9_duel_107_4 I L a1 a2 a3 a4 a5 a6)) ∧ True := ⟨by assumption, trivial⟩
  V_aload_n (tat ok_X9_duel_1 (i := 18) (q := 108) rfl rfl) 0 rfl rfl <|
    V_bipush (tat ok_X9_duel_1 (i := 19) (q := 110) rfl rfl) bp_9 <|
    V_iload (tat ok_X9_duel_1 (i := 20) (q := 112) rfl rfl) 6 rfl <|
    V_imul (tat ok_X9_duel_1 (i := 21) (q := 113) rfl rfl) <|
    V_iload (tat ok_X9_duel_1 (i := 22) (q := 115) rfl rfl) 5 rfl <|
    V_iconst (tat ok_X9_duel_1 (i := 23) (q := 116) rfl rfl) ic_2 <|
    V_irem (tat ok_X9_duel_1 (i := 24) (q := 117) rfl rfl) (by decide) <|
    V_if_ne (tat ok_X9_duel_1 (i := 25) (q := 120) rfl rfl) rfl (fun c6 => V_iconst (tat ok_X9_duel_1 (i := 28) (q := 125) rfl rfl) ic_0 <|
    V_X9_duel_125_4 rfl hk (jq (P := oP P) kq (if_neg c6))) (fun c6 => V_iconst (tat ok_X9_duel_1 (i := 26) (q := 121) rfl rfl) ic_1 <|
    V_goto (tat ok_X9_duel_1 (i := 27) (q := 124) rfl rfl) rfl <|
    V_X9_duel_125_4 rfl hk (jq (P := oP P) kq (if_pos c6)))
def F_X9_duel_183_3 (I : WI) (L : WL) (a1 : Int32) (a2 : Int32) (a3 : Int32) (a4 : Int32) (a5 : Int32) : Option (WI ⊕ (Int32 × Int32 × WI)) :=
  some (.inr (a4, (a5 + (-1)), I))
theorem V_X9_duel_183_3  {I : WI} {L : WL} {a1 : Int32} {a2 : Int32} {a3 : Int32} {a4 : Int32} {a5 : Int32} {P : (WI ⊕ (Int32 × Int32 × WI)) → Prop} {t : Tg} (he : ∀ x : WI, P (.inl x) → V (zM x_X9_duel 4 0 0 t) 189 [(0, .ref 33), (1, .int a1), (2, .int a2), (3, .int a3)] [] ly0 x L R0 0 0) (hk : ∀ x : (Int32 × Int32 × WI), P (.inr x) → V (zM x_X9_duel 4 0 0 t) 85 [(0, .ref 33), (1, .int a1), (2, .int a2), (3, .int a3), (4, .int (p1 x)), (5, .int (p1 (p2 x)))] [] ly0 (p2 (p2 x)) L R0 0 0) : oP P (F_X9_duel_183_3 I L a1 a2 a3 a4 a5) → V (zM x_X9_duel 4 0 0 t) 183 [(0, .ref 33), (1, .int a1), (2, .int a2), (3, .int a3), (4, .int a4), (5, .int a5)] [] ly0 I L R0 0 0 :=
  fun _ =>
  have kq : (oP P (F_X9_duel_183_3 I L a1 a2 a3 a4 a5)) ∧ True := ⟨by assumption, trivial⟩
  V_iinc (v := (a5 + (-1))) (lv' := [(5, .int (a5 + (-1))), (0, .ref 33), (1, .int a1), (2, .int a2), (3, .int a3), (4, .int a4)]) (tat ok_X9_duel_2 (i := 18) (q := 186) rfl rfl) 5 rfl (ia ic_m1) (Nat.le_of_ble_eq_true rfl) rfl <|
    V_goto (tat ok_X9_duel_2 (i := 19) (q := 189) rfl rfl) rfl <|
    V_pick [1, 2, 3, 4, 5, 0] rfl (hk (a4, (a5 + (-1)), I) (jq (P := oP P) kq rfl))
def F_X9_duel_100_3 (I : WI) (L : WL) (a1 : Int32) (a2 : Int32) (a3 : Int32) (a4 : Int32) (a5 : Int32) (a6 : Int32) : Option (WI ⊕ (Int32 × Int32 × WI)) :=
  (frp0 (fun i x => (F_X9_duel_107_4 x L a1 a2 a3 a4 a5 i)) a4 (fu a6 a4) a6 I).bind (fun q => (F_X9_duel_183_3 (p2 q) L a1 a2 a3 a4 a5))
theorem V_X9_duel_100_3  {I : WI} {L : WL} {a1 : Int32} {a2 : Int32} {a3 : Int32} {a4 : Int32} {a5 : Int32} {a6 : Int32} {P : (WI ⊕ (Int32 × Int32 × WI)) → Prop} {t : Tg} (hb6 : bz a6 = a6) (he : ∀ x : WI, P (.inl x) → V (zM x_X9_duel 4 0 0 t) 189 [(0, .ref 33), (1, .int a1), (2, .int a2), (3, .int a3)] [] ly0 x L R0 0 0) (hk : ∀ x : (Int32 × Int32 × WI), P (.inr x) → V (zM x_X9_duel 4 0 0 t) 85 [(0, .ref 33), (1, .int a1), (2, .int a2), (3, .int a3), (4, .int (p1 x)), (5, .int (p1 (p2 x)))] [] ly0 (p2 (p2 x)) L R0 0 0) (kk : oP P (F_X9_duel_100_3 I L a1 a2 a3 a4 a5 a6)) : V (zM x_X9_duel 4 0 0 t) 100 [(0, .ref 33), (1, .int a1), (2, .int a2), (3, .int a3), (4, .int a4), (5, .int a5), (6, .int a6)] [] ly0 I L R0 0 0 :=
  V_frp0 (fun i x => (F_X9_duel_107_4 x L a1 a2 a3 a4 a5 i)) a4 (fun i x => V (zM x_X9_duel 4 0 0 t) 100 [(0, .ref 33), (1, .int a1), (2, .int a2), (3, .int a3), (4, .int a4), (5, .int a5), (6, .int i)] [] ly0 x L R0 0 0) (fun i x => oP P ((F_X9_duel_183_3 x L a1 a2 a3 a4 a5))) (c := a6) (s := I) (fun i x kx kb => V_iload (tat ok_X9_duel_1 (i := 15) (q := 102) rfl rfl) 6 rfl <|
    V_iload (tat ok_X9_duel_1 (i := 16) (q := 104) rfl rfl) 4 rfl <|
    V_icmp_ge (tat ok_X9_duel_1 (i := 17) (q := 107) rfl rfl) rfl (fun c0 => V_pick [0, 1, 2, 3, 4, 5] rfl (V_X9_duel_183_3  he hk (kx c0))) (fun c0 => V_X9_duel_107_4 (P := (fun x => (fun i x => V (zM x_X9_duel 4 0 0 t) 100 [(0, .ref 33), (1, .int a1), (2, .int a2), (3, .int a3), (4, .int a4), (5, .int a5), (6, .int i)] [] ly0 x L R0 0 0) (i + 1) x))  (fun _ e => e) (kb c0))) (oP_bind (f := fun q => _) kk)
def F_X9_duel_85_3 (I : WI) (L : WL) (a1 : Int32) (a2 : Int32) (a3 : Int32) (a4 : Int32) (a5 : Int32) : Option (WI ⊕ (Int32 × Int32 × WI)) :=
  (if a5 < 0 then some (.inl I) else (F_X9_duel_100_3 I L a1 a2 a3 (a4 / 9) a5 0))
theorem V_X9_duel_85_3  {I : WI} {L : WL} {a1 : Int32} {a2 : Int32} {a3 : Int32} {a4 : Int32} {a5 : Int32} {P : (WI ⊕ (Int32 × Int32 × WI)) → Prop} {t : Tg} (he : ∀ x : WI, P (.inl x) → V (zM x_X9_duel 4 0 0 t) 189 [(0, .ref 33), (1, .int a1), (2, .int a2), (3, .int a3)] [] ly0 x L R0 0 0) (hk : ∀ x : (Int32 × Int32 × WI), P (.inr x) → V (zM x_X9_duel 4 0 0 t) 85 [(0, .ref 33), (1, .int a1), (2, .int a2), (3, .int a3), (4, .int (p1 x)), (5, .int (p1 (p2 x)))] [] ly0 (p2 (p2 x)) L R0 0 0) : oP P (F_X9_duel_85_3 I L a1 a2 a3 a4 a5) → V (zM x_X9_duel 4 0 0 t) 85 [(0, .ref 33), (1, .int a1), (2, .int a2), (3, .int a3), (4, .int a4), (5, .int a5)] [] ly0 I L R0 0 0 :=
  fun _ =>
  have kq : (oP P (F_X9_duel_85_3 I L a1 a2 a3 a4 a5)) ∧ True := ⟨by assumption, trivial⟩
  V_iload (tat ok_X9_duel_1 (i := 7) (q := 87) rfl rfl) 5 rfl <|
    V_if_lt (tat ok_X9_duel_1 (i := 8) (q := 90) rfl rfl) rfl (fun c5 => V_pick [0, 1, 2, 3] rfl (he I (jq (P := oP P) kq (if_pos c5)))) (fun c5 => V_iload (tat ok_X9_duel_1 (i := 9) (q := 92) rfl rfl) 4 rfl <|
    V_bipush (tat ok_X9_duel_1 (i := 10) (q := 94) rfl rfl) bp_9 <|
    V_idiv (tat ok_X9_duel_1 (i := 11) (q := 95) rfl rfl) (by decide) <|
    V_istore (lv' := [(4, .int (a4 / 9)), (0, .ref 33), (1, .int a1), (2, .int a2), (3, .int a3), (5, .int a5)]) (tat ok_X9_duel_1 (i := 12) (q := 97) rfl rfl) (Nat.le_of_ble_eq_true rfl) rfl <|
    V_iconst (tat ok_X9_duel_1 (i := 13) (q := 98) rfl rfl) ic_0 <|
    V_istore (lv' := [(6, .int 0), (4, .int (a4 / 9)), (0, .ref 33), (1, .int a1), (2, .int a2), (3, .int a3), (5, .int a5)]) (tat ok_X9_duel_1 (i := 14) (q := 100) rfl rfl) (Nat.le_of_ble_eq_true rfl) rfl <|
    V_pick [2, 3, 4, 5, 1, 6, 0] rfl (V_X9_duel_100_3 rfl he hk (jq (P := oP P) kq (if_neg c5))))
def F_X9_duel_206 (I : WI) (L : WL) (a1 : Int32) (a2 : Int32) (a3 : Int32) (s0 : Int32) : Option (Int32 × WI) :=
  some (s0, I)
theorem V_X9_duel_206  {I : WI} {L : WL} {a1 : Int32} {a2 : Int32} {a3 : Int32} {s0 : Int32} {P : (Int32 × WI) → Prop} {t : Tg} (hr : ∀ v, P v → t = (some (.int (p1 v)), ly0, (p2 v), L, R0)) : oP P (F_X9_duel_206 I L a1 a2 a3 s0) → V (zM x_X9_duel 4 0 0 t) 206 [(0, .ref 33), (1, .int a1), (2, .int a2), (3, .int a3)] [.int s0] ly0 I L R0 0 0 :=
  fun _ =>
  have kq : (oP P (F_X9_duel_206 I L a1 a2 a3 s0)) ∧ True := ⟨by assumption, trivial⟩
  V_iret (tat ok_X9_duel_2 (i := 29) (q := 207) rfl rfl) _ rfl (nar_int _) (hr (s0, I) (jq (P := oP P) kq rfl)) ⟨(Nat.le_of_ble_eq_true rfl), (Nat.le_of_ble_eq_true rfl)⟩
def F_X9_duel_189 (I : WI) (L : WL) (a1 : Int32) (a2 : Int32) (a3 : Int32) : Option (Int32 × WI) :=
  (if a3 = 0 then (F_X9_duel_206 I L a1 a2 a3 (I 41 (Int32.toNatClampNeg 0))) else (F_X9_duel_206 I L a1 a2 a3 (I 33 38)))
theorem V_X9_duel_189  {I : WI} {L : WL} {a1 : Int32} {a2 : Int32} {a3 : Int32}  {P : (Int32 × WI) → Prop} {t : Tg} (hr : ∀ v, P v → t = (some (.int (p1 v)), ly0, (p2 v), L, R0)) : oP P (F_X9_duel_189 I L a1 a2 a3) → V (zM x_X9_duel 4 0 0 t) 189 [(0, .ref 33), (1, .int a1), (2, .int a2), (3, .int a3)] [] ly0 I L R0 0 0 :=
  fun _ =>
  have kq : (oP P (F_X9_duel_189 I L a1 a2 a3)) ∧ True := ⟨by assumption, trivial⟩
  V_iload_n (tat ok_X9_duel_2 (i := 20) (q := 190) rfl rfl) 3 rfl rfl <|
    V_if_ne (tat ok_X9_duel_2 (i := 21) (q := 193) rfl rfl) rfl (fun c12 => V_aload_n (tat ok_X9_duel_2 (i := 27) (q := 203) rfl rfl) 0 rfl rfl <|
    V_getI (tat ok_X9_duel_2 (i := 28) (q := 206) rfl rfl) fk_X9_301 rfl <|
    V_X9_duel_206  hr (jq (P := oP P) kq (if_neg c12))) (fun c12 => V_aload_n (tat ok_X9_duel_2 (i := 22) (q := 194) rfl rfl) 0 rfl rfl <|
    V_getR (tat ok_X9_duel_2 (i := 23) (q := 197) rfl rfl) fk_X9_32 rfl rfl <|
    V_iconst (tat ok_X9_duel_2 (i := 24) (q := 198) rfl rfl) ic_0 <|
    V_iald (tat ok_X9_duel_2 (i := 25) (q := 199) rfl rfl) rfl (vp_in_nI (n := 0) (by decide) (by decide)) <|
    V_goto (tat ok_X9_duel_2 (i := 26) (q := 202) rfl rfl) rfl <|
    V_X9_duel_206  hr (jq (P := oP P) kq (if_pos c12)))
def F_X9_duel_85 (I : WI) (L : WL) (a1 : Int32) (a2 : Int32) (a3 : Int32) (a4 : Int32) (a5 : Int32) : Option (Int32 × WI) :=
  (lpp (fun x => (F_X9_duel_85_3 (p2 (p2 x)) L a1 a2 a3 (p1 x) (p1 (p2 x)))) 4294967296 (a4, a5, I)).bind (fun q => (F_X9_duel_189 q L a1 a2 a3))
theorem V_X9_duel_85  {I : WI} {L : WL} {a1 : Int32} {a2 : Int32} {a3 : Int32} {a4 : Int32} {a5 : Int32} {P : (Int32 × WI) → Prop} {t : Tg} (hr : ∀ v, P v → t = (some (.int (p1 v)), ly0, (p2 v), L, R0)) (kk : oP P (F_X9_duel_85 I L a1 a2 a3 a4 a5)) : V (zM x_X9_duel 4 0 0 t) 85 [(0, .ref 33), (1, .int a1), (2, .int a2), (3, .int a3), (4, .int a4), (5, .int a5)] [] ly0 I L R0 0 0 :=
  V_lpp (fun x => (F_X9_duel_85_3 (p2 (p2 x)) L a1 a2 a3 (p1 x) (p1 (p2 x)))) (fun x => V (zM x_X9_duel 4 0 0 t) 85 [(0, .ref 33), (1, .int a1), (2, .int a2), (3, .int a3), (4, .int (p1 x)), (5, .int (p1 (p2 x)))] [] ly0 (p2 (p2 x)) L R0 0 0) (fun x => oP P ((F_X9_duel_189 x L a1 a2 a3))) (s := (a4, a5, I)) (fun x e0 => V_X9_duel_85_3 (P := Sum.elim (fun x => oP P ((F_X9_duel_189 x L a1 a2 a3))) (fun x => V (zM x_X9_duel 4 0 0 t) 85 [(0, .ref 33), (1, .int a1), (2, .int a2), (3, .int a3), (4, .int (p1 x)), (5, .int (p1 (p2 x)))] [] ly0 (p2 (p2 x)) L R0 0 0))  (fun x e => V_X9_duel_189  hr e) (fun _ e => e) e0) (oP_bind (f := fun q => _) kk)
def F_X9_duel_80 (I : WI) (L : WL) (a1 : Int32) (a2 : Int32) (a3 : Int32) (a4 : Int32) : Option (Int32 × WI) :=
  (F_X9_duel_85 I L a1 a2 a3 a4 (a1 - 1))
theorem V_X9_duel_80  {I : WI} {L : WL} {a1 : Int32} {a2 : Int32} {a3 : Int32} {a4 : Int32} {P : (Int32 × WI) → Prop} {t : Tg} (hr : ∀ v, P v → t = (some (.int (p1 v)), ly0, (p2 v), L, R0)) : oP P (F_X9_duel_80 I L a1 a2 a3 a4) → V (zM x_X9_duel 4 0 0 t) 80 [(0, .ref 33), (1, .int a1), (2, .int a2), (3, .int a3), (4, .int a4)] [] ly0 I L R0 0 0 :=
  fun _ =>
  have kq : (oP P (F_X9_duel_80 I L a1 a2 a3 a4)) ∧ True := ⟨by assumption, trivial⟩
  V_iload_n (tat ok_X9_duel_1 (i := 3) (q := 81) rfl rfl) 1 rfl rfl <|
    V_iconst (tat ok_X9_duel_1 (i := 4) (q := 82) rfl rfl) ic_1 <|
    V_isub (tat ok_X9_duel_1 (i := 5) (q := 83) rfl rfl) <|
    V_istore (lv' := [(5, .int (a1 - 1)), (0, .ref 33), (1, .int a1), (2, .int a2), (3, .int a3), (4, .int a4)]) (tat ok_X9_duel_1 (i := 6) (q := 85) rfl rfl) (Nat.le_of_ble_eq_true rfl) rfl <|
    V_pick [1, 2, 3, 4, 5, 0] rfl (V_X9_duel_85  hr (jq (P := oP P) kq rfl))
def F_X9_duel_52 (I : WI) (L : WL) (a1 : Int32) (a2 : Int32) (a3 : Int32) (a4 : Int32) (a5 : Int32) : Option (Int32 × WI) :=
  (frp0 (fun i x => (F_X9_duel_59_2 x L a1 a2 a3 a4 i)) a4 (fu a5 a4) a5 I).bind (fun q => (F_X9_duel_80 (p2 q) L a1 a2 a3 a4))
theorem V_X9_duel_52  {I : WI} {L : WL} {a1 : Int32} {a2 : Int32} {a3 : Int32} {a4 : Int32} {a5 : Int32} {P : (Int32 × WI) → Prop} {t : Tg} (hb5 : bz a5 = a5) (hr : ∀ v, P v → t = (some (.int (p1 v)), ly0, (p2 v), L, R0)) (kk : oP P (F_X9_duel_52 I L a1 a2 a3 a4 a5)) : V (zM x_X9_duel 4 0 0 t) 52 [(0, .ref 33), (1, .int a1), (2, .int a2), (3, .int a3), (4, .int a4), (5, .int a5)] [] ly0 I L R0 0 0 :=
  V_frp0 (fun i x => (F_X9_duel_59_2 x L a1 a2 a3 a4 i)) a4 (fun i x => V (zM x_X9_duel 4 0 0 t) 52 [(0, .ref 33), (1, .int a1), (2, .int a2), (3, .int a3), (4, .int a4), (5, .int i)] [] ly0 x L R0 0 0) (fun i x => oP P ((F_X9_duel_80 x L a1 a2 a3 a4))) (c := a5) (s := I) (fun i x kx kb => V_iload (tat ok_X9_duel_0 (i := 29) (q := 54) rfl rfl) 5 rfl <|
    V_iload (tat ok_X9_duel_0 (i := 30) (q := 56) rfl rfl) 4 rfl <|
    V_icmp_ge (tat ok_X9_duel_0 (i := 31) (q := 59) rfl rfl) rfl (fun c0 => V_pick [0, 1, 2, 3, 4] rfl (V_X9_duel_80  hr (kx c0))) (fun c0 => V_X9_duel_59_2 (P := (fun x => (fun i x => V (zM x_X9_duel 4 0 0 t) 52 [(0, .ref 33), (1, .int a1), (2, .int a2), (3, .int a3), (4, .int a4), (5, .int i)] [] ly0 x L R0 0 0) (i + 1) x))  (fun _ e => e) (kb c0))) (oP_bind (f := fun q => _) kk)
def F_X9_duel_49 (I : WI) (L : WL) (a1 : Int32) (a2 : Int32) (a3 : Int32) (a4 : Int32) : Option (Int32 × WI) :=
  (F_X9_duel_52 I L a1 a2 a3 a4 0)
theorem V_X9_duel_49  {I : WI} {L : WL} {a1 : Int32} {a2 : Int32} {a3 : Int32} {a4 : Int32} {P : (Int32 × WI) → Prop} {t : Tg} (hr : ∀ v, P v → t = (some (.int (p1 v)), ly0, (p2 v), L, R0)) : oP P (F_X9_duel_49 I L a1 a2 a3 a4) → V (zM x_X9_duel 4 0 0 t) 49 [(0, .ref 33), (1, .int a1), (2, .int a2), (3, .int a3), (4, .int a4)] [] ly0 I L R0 0 0 :=
  fun _ =>
  have kq : (oP P (F_X9_duel_49 I L a1 a2 a3 a4)) ∧ True := ⟨by assumption, trivial⟩
  V_iconst (tat ok_X9_duel_0 (i := 27) (q := 50) rfl rfl) ic_0 <|
    V_istore (lv' := [(5, .int 0), (0, .ref 33), (1, .int a1), (2, .int a2), (3, .int a3), (4, .int a4)]) (tat ok_X9_duel_0 (i := 28) (q := 52) rfl rfl) (Nat.le_of_ble_eq_true rfl) rfl <|
    V_pick [1, 2, 3, 4, 5, 0] rfl (V_X9_duel_52 rfl hr (jq (P := oP P) kq rfl))
def F_X9_duel_30 (I : WI) (L : WL) (a1 : Int32) (a2 : Int32) (a3 : Int32) (a4 : Int32) (a5 : Int32) : Option (Int32 × WI) :=
  (frp0 (fun i x => (F_X9_duel_36_1 I L a1 a2 a3 i x)) a1 (fu a5 a1) a5 a4).bind (fun q => (F_X9_duel_49 I L a1 a2 a3 (p2 q)))
theorem V_X9_duel_30  {I : WI} {L : WL} {a1 : Int32} {a2 : Int32} {a3 : Int32} {a4 : Int32} {a5 : Int32} {P : (Int32 × WI) → Prop} {t : Tg} (hb4 : bz a4 = a4) (hb5 : bz a5 = a5) (hr : ∀ v, P v → t = (some (.int (p1 v)), ly0, (p2 v), L, R0)) (kk : oP P (F_X9_duel_30 I L a1 a2 a3 a4 a5)) : V (zM x_X9_duel 4 0 0 t) 30 [(0, .ref 33), (1, .int a1), (2, .int a2), (3, .int a3), (4, .int a4), (5, .int a5)] [] ly0 I L R0 0 0 :=
  V_frp0 (fun i x => (F_X9_duel_36_1 I L a1 a2 a3 i x)) a1 (fun i x => V (zM x_X9_duel 4 0 0 t) 30 [(0, .ref 33), (1, .int a1), (2, .int a2), (3, .int a3), (4, .int x), (5, .int i)] [] ly0 I L R0 0 0) (fun i x => oP P ((F_X9_duel_49 I L a1 a2 a3 x))) (c := a5) (s := a4) (fun i x kx kb => V_iload (tat ok_X9_duel_0 (i := 18) (q := 32) rfl rfl) 5 rfl <|
    V_iload_n (tat ok_X9_duel_0 (i := 19) (q := 33) rfl rfl) 1 rfl rfl <|
    V_icmp_ge (tat ok_X9_duel_0 (i := 20) (q := 36) rfl rfl) rfl (fun c0 => V_pick [0, 1, 2, 3, 4] rfl (V_X9_duel_49  hr (kx c0))) (fun c0 => V_X9_duel_36_1 (P := (fun x => (fun i x => V (zM x_X9_duel 4 0 0 t) 30 [(0, .ref 33), (1, .int a1), (2, .int a2), (3, .int a3), (4, .int x), (5, .int i)] [] ly0 I L R0 0 0) (i + 1) x))  (fun _ e => e) (kb c0))) (oP_bind (f := fun q => _) kk)
def F_X9_duel (I : WI) (L : WL) (a1 : Int32) (a2 : Int32) (a3 : Int32) : Option (Int32 × WI) :=
  (if (F_X9_in (Int32.toInt64 a1) 1 4) = 0 then (F_X9_duel_22 I L a1 a2 a3) else (if (F_X9_in (Int32.toInt64 a3) 0 1) = 0 then (F_X9_duel_22 I L a1 a2 a3) else (F_X9_duel_30 I L a1 a2 a3 1 0)))
theorem V_X9_duel  {I : WI} {L : WL} {a1 : Int32} {a2 : Int32} {a3 : Int32}  {P : (Int32 × WI) → Prop} {t : Tg} (hr : ∀ v, P v → t = (some (.int (p1 v)), ly0, (p2 v), L, R0)) : oP P (F_X9_duel I L a1 a2 a3) → V (zM x_X9_duel 4 0 0 t) 0 [(0, .ref 33), (1, .int a1), (2, .int a2), (3, .int a3)] [] ly0 I L R0 0 0 :=
  fun _ =>
  have kq : (oP P (F_X9_duel I L a1 a2 a3)) ∧ True := ⟨by assumption, trivial⟩
  V_iload_n (tat ok_X9_duel_0 (i := 0) (q := 1) rfl rfl) 1 rfl rfl <|
    V_i2l (tat ok_X9_duel_0 (i := 1) (q := 2) rfl rfl) <|
    V_lconst (v := 1) (tat ok_X9_duel_0 (i := 2) (q := 3) rfl rfl) rfl <|
    V_ldc2 (tat ok_X9_duel_0 (i := 3) (q := 6) rfl rfl) (gw_in kl_X9_291 rfl) <|
    V_cs3 (ct_X9_in I L (Int32.toInt64 a1) 1 4 ) mo_X9_in (tat ok_X9_duel_0 (i := 4) (q := 9) rfl rfl) ml_X9_97 ⟨(Nat.le_of_ble_eq_true rfl), (Nat.le_of_ble_eq_true rfl)⟩ ⟨(Nat.le_of_ble_eq_true rfl), (Nat.le_of_ble_eq_true rfl)⟩ (Nat.le_of_ble_eq_true rfl) <|
    V_if_eq (tat ok_X9_duel_0 (i := 5) (q := 12) rfl rfl) rfl (fun c1 => V_X9_duel_22  hr (jq (P := oP P) kq (if_pos c1))) (fun c1 => V_iload_n (tat ok_X9_duel_0 (i := 6) (q := 13) rfl rfl) 3 rfl rfl <|
    V_i2l (tat ok_X9_duel_0 (i := 7) (q := 14) rfl rfl) <|
    V_lconst (v := 0) (tat ok_X9_duel_0 (i := 8) (q := 15) rfl rfl) rfl <|
    V_lconst (v := 1) (tat ok_X9_duel_0 (i := 9) (q := 16) rfl rfl) rfl <|
    V_cs3 (ct_X9_in I L (Int32.toInt64 a3) 0 1 ) mo_X9_in (tat ok_X9_duel_0 (i := 10) (q := 19) rfl rfl) ml_X9_97 ⟨(Nat.le_of_ble_eq_true rfl), (Nat.le_of_ble_eq_true rfl)⟩ ⟨(Nat.le_of_ble_eq_true rfl), (Nat.le_of_ble_eq_true rfl)⟩ (Nat.le_of_ble_eq_true rfl) <|
    V_if_ne (tat ok_X9_duel_0 (i := 11) (q := 22) rfl rfl) rfl (fun c2 => V_iconst (tat ok_X9_duel_0 (i := 14) (q := 25) rfl rfl) ic_1 <|
    V_istore (lv' := [(4, .int 1), (0, .ref 33), (1, .int a1), (2, .int a2), (3, .int a3)]) (tat ok_X9_duel_0 (i := 15) (q := 27) rfl rfl) (Nat.le_of_ble_eq_true rfl) rfl <|
    V_iconst (tat ok_X9_duel_0 (i := 16) (q := 28) rfl rfl) ic_0 <|
    V_istore (lv' := [(5, .int 0), (4, .int 1), (0, .ref 33), (1, .int a1), (2, .int a2), (3, .int a3)]) (tat ok_X9_duel_0 (i := 17) (q := 30) rfl rfl) (Nat.le_of_ble_eq_true rfl) rfl <|
    V_pick [2, 3, 4, 5, 1, 0] rfl (V_X9_duel_30 rfl rfl hr (jq (P := oP P) kq (Eq.trans (if_neg c1) (if_neg c2))))) (fun c2 => V_X9_duel_22  hr (jq (P := oP P) kq (Eq.trans (if_neg c1) (if_pos c2)))))
theorem ct_X9_duel  (I : WI) (L : WL) (a1 : Int32) (a2 : Int32) (a3 : Int32)  {v : (Int32 × WI)} (h : (F_X9_duel I L a1 a2 a3) = some v) : Ct x_X9_duel 4 [.ref 33, .int a1, .int a2, .int a3] ly0 I L R0 0 0 (some (.int (p1 v)), ly0, (p2 v), L, R0) :=
  Ct_of_V mo_X9_duel.1 (Nat.le_of_ble_eq_true rfl) (V_X9_duel (P := fun x => x = v)  (fun _ e => by rw [e]) (by rw [h]; exact rfl))
def F_X9_turned_19 (I : WI) (L : WL) (a1 : Int32) (a2 : Int32) : Option (Int32 × WI) :=
  some ((-1), I)
theorem V_X9_turned_19  {I : WI} {L : WL} {a1 : Int32} {a2 : Int32}  {P : (Int32 × WI) → Prop} {t : Tg} (hr : ∀ v, P v → t = (some (.int (p1 v)), ly0, (p2 v), L, R0)) : oP P (F_X9_turned_19 I L a1 a2) → V (zM x_X9_turned 5 0 0 t) 19 [(0, .ref 33), (1, .int a1), (2, .int a2)] [] ly0 I L R0 0 0 :=
  fun _ =>
  have kq : (oP P (F_X9_turned_19 I L a1 a2)) ∧ True := ⟨by assumption, trivial⟩
  V_iconst (tat ok_X9_turned_0 (i := 9) (q := 20) rfl rfl) ic_m1 <|
    V_iret (tat ok_X9_turned_0 (i := 10) (q := 21) rfl rfl) _ rfl (nar_int _) (hr ((-1), I) (jq (P := oP P) kq rfl)) ⟨(Nat.le_of_ble_eq_true rfl), (Nat.le_of_ble_eq_true rfl)⟩
def F_X9_turned_37 (I : WI) (L : WL) (a1 : Int32) (a2 : Int32) : Option (Int32 × WI) :=
  some ((-2), I)
theorem V_X9_turned_37  {I : WI} {L : WL} {a1 : Int32} {a2 : Int32}  {P : (Int32 × WI) → Prop} {t : Tg} (hr : ∀ v, P v → t = (some (.int (p1 v)), ly0, (p2 v), L, R0)) : oP P (F_X9_turned_37 I L a1 a2) → V (zM x_X9_turned 5 0 0 t) 37 [(0, .ref 33), (1, .int a1), (2, .int a2)] [] ly0 I L R0 0 0 :=
  fun _ =>
  have kq : (oP P (F_X9_turned_37 I L a1 a2)) ∧ True := ⟨by assumption, trivial⟩
  V_bipush (tat ok_X9_turned_0 (i := 19) (q := 39) rfl rfl) bp_m2 <|
    V_iret (tat ok_X9_turned_0 (i := 20) (q := 40) rfl rfl) _ rfl (nar_int _) (hr ((-2), I) (jq (P := oP P) kq rfl)) ⟨(Nat.le_of_ble_eq_true rfl), (Nat.le_of_ble_eq_true rfl)⟩
def F_X9_turned_68 (I : WI) (L : WL) (a1 : Int32) (a2 : Int32) (s0 : Int32) : Option (Int32 × WI) :=
  some (s0, I)
theorem V_X9_turned_68  {I : WI} {L : WL} {a1 : Int32} {a2 : Int32} {s0 : Int32} {P : (Int32 × WI) → Prop} {t : Tg} (hr : ∀ v, P v → t = (some (.int (p1 v)), ly0, (p2 v), L, R0)) : oP P (F_X9_turned_68 I L a1 a2 s0) → V (zM x_X9_turned 5 0 0 t) 68 [(0, .ref 33), (1, .int a1), (2, .int a2)] [.int s0] ly0 I L R0 0 0 :=
  fun _ =>
  have kq : (oP P (F_X9_turned_68 I L a1 a2 s0)) ∧ True := ⟨by assumption, trivial⟩
  V_iret (tat ok_X9_turned_0 (i := 36) (q := 69) rfl rfl) _ rfl (nar_int _) (hr (s0, I) (jq (P := oP P) kq rfl)) ⟨(Nat.le_of_ble_eq_true rfl), (Nat.le_of_ble_eq_true rfl)⟩
def F_X9_turned (I : WI) (L : WL) (a1 : Int32) (a2 : Int32) : Option (Int32 × WI) :=
  (Option.bind (F_X9_isImage a1) (fun v1 => (if v1 = 0 then (F_X9_turned_19 I L a1 a2) else (if (F_X9_in (Int32.toInt64 a2) 0 2) = 0 then (F_X9_turned_19 I L a1 a2) else (Option.bind (F_X9_isKept I a1) (fun v4 => (if v4 = 0 then (F_X9_turned_37 I L a1 a2) else (Option.bind (F_X9_isOfSize I a1) (fun v6 => (if v6 = 0 then (F_X9_turned_37 I L a1 a2) else (if a1 < 0 ∨ 2 ≤ Int32.toNatClampNeg a1 then none else (if (p1 (F_X9_findPlan I ((L 33 2) ^^^ (L 35 (Int32.toNatClampNeg a1))))) = 0 then (F_X9_turned_68 (p2 (F_X9_findPlan I ((L 33 2) ^^^ (L 35 (Int32.toNatClampNeg a1))))) L a1 a2 (-4)) else (F_X9_turned_68 (p2 (F_X9_findPlan I ((L 33 2) ^^^ (L 35 (Int32.toNatClampNeg a1))))) L a1 a2 (F_X9_planTold (p2 (F_X9_findPlan I ((L 33 2) ^^^ (L 35 (Int32.toNatClampNeg a1))))) a2))))))))))))))
theorem V_X9_turned  {I : WI} {L : WL} {a1 : Int32} {a2 : Int32}  {P : (Int32 × WI) → Prop} {t : Tg} (hr : ∀ v, P v → t = (some (.int (p1 v)), ly0, (p2 v), L, R0)) : oP P (F_X9_turned I L a1 a2) → V (zM x_X9_turned 5 0 0 t) 0 [(0, .ref 33), (1, .int a1), (2, .int a2)] [] ly0 I L R0 0 0 :=
  fun _ =>
  have kq : (oP P (F_X9_turned I L a1 a2)) ∧ True := ⟨by assumption, trivial⟩
  V_iload_n (tat ok_X9_turned_0 (i := 0) (q := 1) rfl rfl) 1 rfl rfl <|
    oP_case (jq (P := oP P) kq rfl) (fun v1 e1 _ => V_cs1 (ct_X9_isImage I L a1  e1) mo_X9_isImage (tat ok_X9_turned_0 (i := 1) (q := 4) rfl rfl) ml_X9_235 ⟨(Nat.le_of_ble_eq_true rfl), (Nat.le_of_ble_eq_true rfl)⟩ ⟨(Nat.le_of_ble_eq_true rfl), (Nat.le_of_ble_eq_true rfl)⟩ (Nat.le_of_ble_eq_true rfl) <|
    V_if_eq (tat ok_X9_turned_0 (i := 2) (q := 7) rfl rfl) rfl (fun c2 => V_X9_turned_19  hr (jq (P := oP P) kq (Eq.trans (ob e1) (if_pos c2)))) (fun c2 => V_iload_n (tat ok_X9_turned_0 (i := 3) (q := 8) rfl rfl) 2 rfl rfl <|
    V_i2l (tat ok_X9_turned_0 (i := 4) (q := 9) rfl rfl) <|
    V_lconst (v := 0) (tat ok_X9_turned_0 (i := 5) (q := 10) rfl rfl) rfl <|
    V_ldc2 (tat ok_X9_turned_0 (i := 6) (q := 13) rfl rfl) (gw_in kl_X9_189 rfl) <|
    V_cs3 (ct_X9_in I L (Int32.toInt64 a2) 0 2 ) mo_X9_in (tat ok_X9_turned_0 (i := 7) (q := 16) rfl rfl) ml_X9_97 ⟨(Nat.le_of_ble_eq_true rfl), (Nat.le_of_ble_eq_true rfl)⟩ ⟨(Nat.le_of_ble_eq_true rfl), (Nat.le_of_ble_eq_true rfl)⟩ (Nat.le_of_ble_eq_true rfl) <|
    V_if_ne (tat ok_X9_turned_0 (i := 8) (q := 19) rfl rfl) rfl (fun c3 => V_aload_n (tat ok_X9_turned_0 (i := 11) (q := 22) rfl rfl) 0 rfl rfl <|
    V_iload_n (tat ok_X9_turned_0 (i := 12) (q := 23) rfl rfl) 1 rfl rfl <|
    oP_case (jq (P := oP P) kq (Eq.trans (ob e1) (Eq.trans (if_neg c2) (if_neg c3)))) (fun v4 e4 _ => V_cv1 (ct_X9_isKept I L a1  e4) mo_X9_isKept (tat ok_X9_turned_0 (i := 13) (q := 26) rfl rfl) ml_X9_239 rfl ⟨by decide, _, rfl, rfl⟩ ⟨(Nat.le_of_ble_eq_true rfl), (Nat.le_of_ble_eq_true rfl)⟩ ⟨(Nat.le_of_ble_eq_true rfl), (Nat.le_of_ble_eq_true rfl)⟩ (Nat.le_of_ble_eq_true rfl) <|
    V_if_eq (tat ok_X9_turned_0 (i := 14) (q := 29) rfl rfl) rfl (fun c5 => V_X9_turned_37  hr (jq (P := oP P) kq (Eq.trans (ob e1) (Eq.trans (if_neg c2) (Eq.trans (if_neg c3) (Eq.trans (ob e4) (if_pos c5))))))) (fun c5 => V_aload_n (tat ok_X9_turned_0 (i := 15) (q := 30) rfl rfl) 0 rfl rfl <|
    V_iload_n (tat ok_X9_turned_0 (i := 16) (q := 31) rfl rfl) 1 rfl rfl <|
    oP_case (jq (P := oP P) kq (Eq.trans (ob e1) (Eq.trans (if_neg c2) (Eq.trans (if_neg c3) (Eq.trans (ob e4) (if_neg c5)))))) (fun v6 e6 _ => V_cv1 (ct_X9_isOfSize I L a1  e6) mo_X9_isOfSize (tat ok_X9_turned_0 (i := 17) (q := 34) rfl rfl) ml_X9_242 rfl ⟨by decide, _, rfl, rfl⟩ ⟨(Nat.le_of_ble_eq_true rfl), (Nat.le_of_ble_eq_true rfl)⟩ ⟨(Nat.le_of_ble_eq_true rfl), (Nat.le_of_ble_eq_true rfl)⟩ (Nat.le_of_ble_eq_true rfl) <|
    V_if_ne (tat ok_X9_turned_0 (i := 18) (q := 37) rfl rfl) rfl (fun c7 => V_aload_n (tat ok_X9_turned_0 (i := 21) (q := 41) rfl rfl) 0 rfl rfl <|
    V_aload_n (tat ok_X9_turned_0 (i := 22) (q := 42) rfl rfl) 0 rfl rfl <|
    V_getL (tat ok_X9_turned_0 (i := 23) (q := 45) rfl rfl) fk_X9_80 rfl <|
    V_aload_n (tat ok_X9_turned_0 (i := 24) (q := 46) rfl rfl) 0 rfl rfl <|
    V_getR (tat ok_X9_turned_0 (i := 25) (q := 49) rfl rfl) fk_X9_13 rfl rfl <|
    V_iload_n (tat ok_X9_turned_0 (i := 26) (q := 50) rfl rfl) 1 rfl rfl <|
    (if c8 : a1 < 0 ∨ 2 ≤ Int32.toNatClampNeg a1 then ((jq (P := oP P) kq (Eq.trans (ob e1) (Eq.trans (if_neg c2) (Eq.trans (if_neg c3) (Eq.trans (ob e4) (Eq.trans (if_neg c5) (Eq.trans (ob e6) (Eq.trans (if_neg c7) (if_pos c8)))))))))).elim else V_lald (tat ok_X9_turned_0 (i := 27) (q := 51) rfl rfl) rfl c8 <|
    V_lxor (tat ok_X9_turned_0 (i := 28) (q := 52) rfl rfl) <|
    V_cv1 (ct_X9_findPlan I L ((L 33 2) ^^^ (L 35 (Int32.toNatClampNeg a1))) ) mo_X9_findPlan (tat ok_X9_turned_0 (i := 29) (q := 55) rfl rfl) ml_X9_253 rfl ⟨by decide, _, rfl, rfl⟩ ⟨(Nat.le_of_ble_eq_true rfl), (Nat.le_of_ble_eq_true rfl)⟩ ⟨(Nat.le_of_ble_eq_true rfl), (Nat.le_of_ble_eq_true rfl)⟩ (Nat.le_of_ble_eq_true rfl) <|
    V_if_eq (tat ok_X9_turned_0 (i := 30) (q := 58) rfl rfl) rfl (fun c9 => V_bipush (tat ok_X9_turned_0 (i := 35) (q := 68) rfl rfl) bp_m4 <|
    V_X9_turned_68  hr (jq (P := oP P) kq (Eq.trans (ob e1) (Eq.trans (if_neg c2) (Eq.trans (if_neg c3) (Eq.trans (ob e4) (Eq.trans (if_neg c5) (Eq.trans (ob e6) (Eq.trans (if_neg c7) (Eq.trans (if_neg c8) (if_pos c9))))))))))) (fun c9 => V_aload_n (tat ok_X9_turned_0 (i := 31) (q := 59) rfl rfl) 0 rfl rfl <|
    V_iload_n (tat ok_X9_turned_0 (i := 32) (q := 60) rfl rfl) 2 rfl rfl <|
    V_cv1 (ct_X9_planTold (p2 (F_X9_findPlan I ((L 33 2) ^^^ (L 35 (Int32.toNatClampNeg a1))))) L a2 ) mo_X9_planTold (tat ok_X9_turned_0 (i := 33) (q := 63) rfl rfl) ml_X9_257 rfl ⟨by decide, _, rfl, rfl⟩ ⟨(Nat.le_of_ble_eq_true rfl), (Nat.le_of_ble_eq_true rfl)⟩ ⟨(Nat.le_of_ble_eq_true rfl), (Nat.le_of_ble_eq_true rfl)⟩ (Nat.le_of_ble_eq_true rfl) <|
    V_goto (tat ok_X9_turned_0 (i := 34) (q := 66) rfl rfl) rfl <|
    V_X9_turned_68  hr (jq (P := oP P) kq (Eq.trans (ob e1) (Eq.trans (if_neg c2) (Eq.trans (if_neg c3) (Eq.trans (ob e4) (Eq.trans (if_neg c5) (Eq.trans (ob e6) (Eq.trans (if_neg c7) (Eq.trans (if_neg c8) (if_neg c9))))))))))))) (fun c7 => V_X9_turned_37  hr (jq (P := oP P) kq (Eq.trans (ob e1) (Eq.trans (if_neg c2) (Eq.trans (if_neg c3) (Eq.trans (ob e4) (Eq.trans (if_neg c5) (Eq.trans (ob e6) (if_pos c7))))))))))))) (fun c3 => V_X9_turned_19  hr (jq (P := oP P) kq (Eq.trans (ob e1) (Eq.trans (if_neg c2) (if_pos c3)))))))
theorem ct_X9_turned  (I : WI) (L : WL) (a1 : Int32) (a2 : Int32)  {v : (Int32 × WI)} (h : (F_X9_turned I L a1 a2) = some v) : Ct x_X9_turned 5 [.ref 33, .int a1, .int a2] ly0 I L R0 0 0 (some (.int (p1 v)), ly0, (p2 v), L, R0) :=
  Ct_of_V mo_X9_turned.1 (Nat.le_of_ble_eq_true rfl) (V_X9_turned (P := fun x => x = v)  (fun _ e => by rw [e]) (by rw [h]; exact rfl))
def F_X9_spoilt_91_1 (I : WI) (L : WL) (a1 : Int32) (a4 : Int32) (a2 : Int32) (a3 : Int32) : (Int32 × Int32) :=
  (a2, a3)
theorem V_X9_spoilt_91_1  {I : WI} {L : WL} {a1 : Int32} {a4 : Int32} {a2 : Int32} {a3 : Int32} {P : (Int32 × Int32) → Prop} {t : Tg} (hk : ∀ x : (Int32 × Int32), P x → V (zM x_X9_spoilt 4 0 0 t) 30 [(0, .ref 33), (1, .int a1), (2, .int (p1 x)), (3, .int (p2 x)), (4, .int (a4 + 1))] [] ly0 I L R0 0 0) (kk : P (F_X9_spoilt_91_1 I L a1 a4 a2 a3)) : V (zM x_X9_spoilt 4 0 0 t) 91 [(0, .ref 33), (1, .int a1), (2, .int a2), (3, .int a3), (4, .int a4)] [] ly0 I L R0 0 0 :=
  V_iinc (v := (a4 + 1)) (lv' := [(4, .int (a4 + 1)), (0, .ref 33), (1, .int a1), (2, .int a2), (3, .int a3)]) (tat ok_X9_spoilt_1 (i := 12) (q := 94) rfl rfl) 4 rfl (ia ic_1) (Nat.le_of_ble_eq_true rfl) rfl <|
    V_goto (tat ok_X9_spoilt_1 (i := 13) (q := 97) rfl rfl) rfl <|
    V_pick [1, 2, 3, 4, 0] rfl (hk (a2, a3) (jx (P := P) kk rfl))
def F_X9_spoilt_87_1 (I : WI) (L : WL) (a1 : Int32) (a4 : Int32) (a2 : Int32) (s0 : Int32) : (Int32 × Int32) :=
  (F_X9_spoilt_91_1 I L a1 a4 (a2 + 1) s0)
theorem V_X9_spoilt_87_1  {I : WI} {L : WL} {a1 : Int32} {a4 : Int32} {a2 : Int32} {s0 : Int32} {P : (Int32 × Int32) → Prop} {t : Tg} (hk : ∀ x : (Int32 × Int32), P x → V (zM x_X9_spoilt 4 0 0 t) 30 [(0, .ref 33), (1, .int a1), (2, .int (p1 x)), (3, .int (p2 x)), (4, .int (a4 + 1))] [] ly0 I L R0 0 0) (kk : P (F_X9_spoilt_87_1 I L a1 a4 a2 s0)) : V (zM x_X9_spoilt 4 0 0 t) 87 [(0, .ref 33), (1, .int a1), (2, .int a2), (4, .int a4)] [.int s0] ly0 I L R0 0 0 :=
  V_istore_n (lv' := [(3, .int s0), (0, .ref 33), (1, .int a1), (2, .int a2), (4, .int a4)]) (tat ok_X9_spoilt_1 (i := 10) (q := 88) rfl rfl) rfl (Nat.le_of_ble_eq_true rfl) rfl <|
    V_iinc (v := (a2 + 1)) (lv' := [(2, .int (a2 + 1)), (3, .int s0), (0, .ref 33), (1, .int a1), (4, .int a4)]) (tat ok_X9_spoilt_1 (i := 11) (q := 91) rfl rfl) 3 rfl (ia ic_1) (Nat.le_of_ble_eq_true rfl) rfl <|
    V_pick [2, 3, 0, 1, 4] rfl (V_X9_spoilt_91_1  hk (jx (P := P) kk rfl))
def F_X9_spoilt_37_1 (I : WI) (L : WL) (a1 : Int32) (a4 : Int32) (a2 : Int32) (a3 : Int32) : (Int32 × Int32) :=
  (if (F_X9_isSquare I (a4 / 8) (a4 - a4 / 8 * 8)) = 0 then (F_X9_spoilt_91_1 I L a1 a4 a2 a3) else (if (lg_cmp (F_X9_formNow I (((L 33 2) ^^^ (L 33 3)) ^^^ (lsh 1 a4))) 0) = 0 then (if a2 = 0 then (F_X9_spoilt_87_1 I L a1 a4 a2 a4) else (F_X9_spoilt_87_1 I L a1 a4 a2 a3)) else (F_X9_spoilt_91_1 I L a1 a4 a2 a3)))
theorem V_X9_spoilt_37_1  {I : WI} {L : WL} {a1 : Int32} {a4 : Int32} {a2 : Int32} {a3 : Int32} {P : (Int32 × Int32) → Prop} {t : Tg} (hk : ∀ x : (Int32 × Int32), P x → V (zM x_X9_spoilt 4 0 0 t) 30 [(0, .ref 33), (1, .int a1), (2, .int (p1 x)), (3, .int (p2 x)), (4, .int (a4 + 1))] [] ly0 I L R0 0 0) (kk : P (F_X9_spoilt_37_1 I L a1 a4 a2 a3)) : V (zM x_X9_spoilt 4 0 0 t) 37 [(0, .ref 33), (1, .int a1), (2, .int a2), (3, .int a3), (4, .int a4)] [] ly0 I L R0 0 0 :=
  V_aload_n (tat ok_X9_spoilt_0 (i := 22) (q := 38) rfl rfl) 0 rfl rfl <|
    V_iload (tat ok_X9_spoilt_0 (i := 23) (q := 40) rfl rfl) 4 rfl <|
    V_bipush (tat ok_X9_spoilt_0 (i := 24) (q := 42) rfl rfl) bp_8 <|
    V_idiv (tat ok_X9_spoilt_0 (i := 25) (q := 43) rfl rfl) (by decide) <|
    V_iload (tat ok_X9_spoilt_0 (i := 26) (q := 45) rfl rfl) 4 rfl <|
    V_bipush (tat ok_X9_spoilt_0 (i := 27) (q := 47) rfl rfl) bp_8 <|
    V_irem (tat ok_X9_spoilt_0 (i := 28) (q := 48) rfl rfl) (by decide) <|
    V_cv2 (ct_X9_isSquare I L (a4 / 8) (a4 - a4 / 8 * 8) ) mo_X9_isSquare (tat ok_X9_spoilt_0 (i := 29) (q := 51) rfl rfl) ml_X9_206 rfl ⟨by decide, _, rfl, rfl⟩ ⟨(Nat.le_of_ble_eq_true rfl), (Nat.le_of_ble_eq_true rfl)⟩ ⟨(Nat.le_of_ble_eq_true rfl), (Nat.le_of_ble_eq_true rfl)⟩ (Nat.le_of_ble_eq_true rfl) <|
    V_if_eq (tat ok_X9_spoilt_0 (i := 30) (q := 54) rfl rfl) rfl (fun c3 => V_X9_spoilt_91_1  hk (jx (P := P) kk (if_pos c3))) (fun c3 => V_aload_n (tat ok_X9_spoilt_0 (i := 31) (q := 55) rfl rfl) 0 rfl rfl <|
    V_aload_n (tat ok_X9_spoilt_0 (i := 32) (q := 56) rfl rfl) 0 rfl rfl <|
    V_getL (tat ok_X9_spoilt_0 (i := 33) (q := 59) rfl rfl) fk_X9_80 rfl <|
    V_aload_n (tat ok_X9_spoilt_0 (i := 34) (q := 60) rfl rfl) 0 rfl rfl <|
    V_getL (tat ok_X9_spoilt_0 (i := 35) (q := 63) rfl rfl) fk_X9_83 rfl <|
    V_lxor (tat ok_X9_spoilt_0 (i := 36) (q := 64) rfl rfl) <|
    V_lconst (v := 1) (tat ok_X9_spoilt_0 (i := 37) (q := 65) rfl rfl) rfl <|
    V_iload (tat ok_X9_spoilt_0 (i := 38) (q := 67) rfl rfl) 4 rfl <|
    V_lshl (tat ok_X9_spoilt_0 (i := 39) (q := 68) rfl rfl) <|
    V_lxor (tat ok_X9_spoilt_1 (i := 0) (q := 69) rfl rfl) <|
    V_cv1 (ct_X9_formNow I L (((L 33 2) ^^^ (L 33 3)) ^^^ (lsh 1 a4)) ) mo_X9_formNow (tat ok_X9_spoilt_1 (i := 1) (q := 72) rfl rfl) ml_X9_231 rfl ⟨by decide, _, rfl, rfl⟩ ⟨(Nat.le_of_ble_eq_true rfl), (Nat.le_of_ble_eq_true rfl)⟩ ⟨(Nat.le_of_ble_eq_true rfl), (Nat.le_of_ble_eq_true rfl)⟩ (Nat.le_of_ble_eq_true rfl) <|
    V_lconst (v := 0) (tat ok_X9_spoilt_1 (i := 2) (q := 73) rfl rfl) rfl <|
    V_lcmp (tat ok_X9_spoilt_1 (i := 3) (q := 74) rfl rfl) <|
    V_if_ne (tat ok_X9_spoilt_1 (i := 4) (q := 77) rfl rfl) rfl (fun c4 => V_X9_spoilt_91_1  hk (jx (P := P) kk (Eq.trans (if_neg c3) (if_neg c4)))) (fun c4 => V_iload_n (tat ok_X9_spoilt_1 (i := 5) (q := 78) rfl rfl) 2 rfl rfl <|
    V_if_ne (tat ok_X9_spoilt_1 (i := 6) (q := 81) rfl rfl) rfl (fun c5 => V_iload_n (tat ok_X9_spoilt_1 (i := 9) (q := 87) rfl rfl) 3 rfl rfl <|
    V_pick [0, 1, 2, 4] rfl (V_X9_spoilt_87_1  hk (jx (P := P) kk (Eq.trans (if_neg c3) (Eq.trans (if_pos c4) (if_neg c5)))))) (fun c5 => V_iload (tat ok_X9_spoilt_1 (i := 7) (q := 83) rfl rfl) 4 rfl <|
    V_goto (tat ok_X9_spoilt_1 (i := 8) (q := 86) rfl rfl) rfl <|
    V_pick [0, 1, 2, 4] rfl (V_X9_spoilt_87_1  hk (jx (P := P) kk (Eq.trans (if_neg c3) (Eq.trans (if_pos c4) (if_pos c5))))))))
def F_X9_spoilt_106 (I : WI) (L : WL) (a1 : Int32) (s0 : Int32) : Int32 :=
  s0
theorem V_X9_spoilt_106  {I : WI} {L : WL} {a1 : Int32} {s0 : Int32} {P : Int32 → Prop} {t : Tg} (hr : ∀ v, P v → t = (some (.int v), ly0, I, L, R0)) (kk : P (F_X9_spoilt_106 I L a1 s0)) : V (zM x_X9_spoilt 4 0 0 t) 106 [(0, .ref 33), (1, .int a1)] [.int s0] ly0 I L R0 0 0 :=
  V_iret (tat ok_X9_spoilt_1 (i := 19) (q := 107) rfl rfl) _ rfl (nar_int _) (hr s0 (jx (P := P) kk rfl)) ⟨(Nat.le_of_ble_eq_true rfl), (Nat.le_of_ble_eq_true rfl)⟩
def F_X9_spoilt_97 (I : WI) (L : WL) (a1 : Int32) (a2 : Int32) (a3 : Int32) : Int32 :=
  (if a1 = 0 then (F_X9_spoilt_106 I L a1 a2) else (F_X9_spoilt_106 I L a1 a3))
theorem V_X9_spoilt_97  {I : WI} {L : WL} {a1 : Int32} {a2 : Int32} {a3 : Int32} {P : Int32 → Prop} {t : Tg} (hr : ∀ v, P v → t = (some (.int v), ly0, I, L, R0)) (kk : P (F_X9_spoilt_97 I L a1 a2 a3)) : V (zM x_X9_spoilt 4 0 0 t) 97 [(0, .ref 33), (1, .int a1), (2, .int a2), (3, .int a3)] [] ly0 I L R0 0 0 :=
  V_iload_n (tat ok_X9_spoilt_1 (i := 14) (q := 98) rfl rfl) 1 rfl rfl <|
    V_if_ne (tat ok_X9_spoilt_1 (i := 15) (q := 101) rfl rfl) rfl (fun c6 => V_iload_n (tat ok_X9_spoilt_1 (i := 18) (q := 106) rfl rfl) 3 rfl rfl <|
    V_pick [0, 1] rfl (V_X9_spoilt_106  hr (jx (P := P) kk (if_neg c6)))) (fun c6 => V_iload_n (tat ok_X9_spoilt_1 (i := 16) (q := 102) rfl rfl) 2 rfl rfl <|
    V_goto (tat ok_X9_spoilt_1 (i := 17) (q := 105) rfl rfl) rfl <|
    V_pick [0, 1] rfl (V_X9_spoilt_106  hr (jx (P := P) kk (if_pos c6))))
def F_X9_spoilt_30 (I : WI) (L : WL) (a1 : Int32) (a2 : Int32) (a3 : Int32) (a4 : Int32) : Int32 :=
  (fun q : Int32 × (Int32 × Int32) => (F_X9_spoilt_97 I L a1 (p1 (p2 q)) (p2 (p2 q)))) (fr0 (fun i x => (F_X9_spoilt_37_1 I L a1 i (p1 x) (p2 x))) 64 (fu a4 64) a4 (a2, a3))
theorem V_X9_spoilt_30  {I : WI} {L : WL} {a1 : Int32} {a2 : Int32} {a3 : Int32} {a4 : Int32} {P : Int32 → Prop} {t : Tg} (hb2 : bz a2 = a2) (hb4 : bz a4 = a4) (hr : ∀ v, P v → t = (some (.int v), ly0, I, L, R0)) (kk : P (F_X9_spoilt_30 I L a1 a2 a3 a4)) : V (zM x_X9_spoilt 4 0 0 t) 30 [(0, .ref 33), (1, .int a1), (2, .int a2), (3, .int a3), (4, .int a4)] [] ly0 I L R0 0 0 :=
  V_fr0 (fun i x => (F_X9_spoilt_37_1 I L a1 i (p1 x) (p2 x))) 64 (fun i x => V (zM x_X9_spoilt 4 0 0 t) 30 [(0, .ref 33), (1, .int a1), (2, .int (p1 x)), (3, .int (p2 x)), (4, .int i)] [] ly0 I L R0 0 0) (fun i x => P ((F_X9_spoilt_97 I L a1 (p1 x) (p2 x)))) (c := a4) (s := (a2, a3)) (fun i x kx kb => V_iload (tat ok_X9_spoilt_0 (i := 19) (q := 32) rfl rfl) 4 rfl <|
    V_bipush (tat ok_X9_spoilt_0 (i := 20) (q := 34) rfl rfl) bp_64 <|
    V_icmp_ge (tat ok_X9_spoilt_0 (i := 21) (q := 37) rfl rfl) rfl (fun c0 => V_pick [0, 1, 2, 3] rfl (V_X9_spoilt_97  hr (kx c0))) (fun c0 => V_X9_spoilt_37_1 (P := (fun x => (fun i x => V (zM x_X9_spoilt 4 0 0 t) 30 [(0, .ref 33), (1, .int a1), (2, .int (p1 x)), (3, .int (p2 x)), (4, .int i)] [] ly0 I L R0 0 0) (i + 1) x))  (fun _ e => e) (kb c0))) kk
def F_X9_spoilt (I : WI) (L : WL) (a1 : Int32) : Int32 :=
  (if (F_X9_in (Int32.toInt64 a1) 0 1) = 0 then (-1) else (if (bz (I 33 4)) = 0 then (-2) else (F_X9_spoilt_30 I L a1 0 (-4) 0)))
theorem V_X9_spoilt  {I : WI} {L : WL} {a1 : Int32}  {P : Int32 → Prop} {t : Tg} (hr : ∀ v, P v → t = (some (.int v), ly0, I, L, R0)) (kk : P (F_X9_spoilt I L a1)) : V (zM x_X9_spoilt 4 0 0 t) 0 [(0, .ref 33), (1, .int a1)] [] ly0 I L R0 0 0 :=
  V_iload_n (tat ok_X9_spoilt_0 (i := 0) (q := 1) rfl rfl) 1 rfl rfl <|
    V_i2l (tat ok_X9_spoilt_0 (i := 1) (q := 2) rfl rfl) <|
    V_lconst (v := 0) (tat ok_X9_spoilt_0 (i := 2) (q := 3) rfl rfl) rfl <|
    V_lconst (v := 1) (tat ok_X9_spoilt_0 (i := 3) (q := 4) rfl rfl) rfl <|
    V_cs3 (ct_X9_in I L (Int32.toInt64 a1) 0 1 ) mo_X9_in (tat ok_X9_spoilt_0 (i := 4) (q := 7) rfl rfl) ml_X9_97 ⟨(Nat.le_of_ble_eq_true rfl), (Nat.le_of_ble_eq_true rfl)⟩ ⟨(Nat.le_of_ble_eq_true rfl), (Nat.le_of_ble_eq_true rfl)⟩ (Nat.le_of_ble_eq_true rfl) <|
    V_if_ne (tat ok_X9_spoilt_0 (i := 5) (q := 10) rfl rfl) rfl (fun c1 => V_aload_n (tat ok_X9_spoilt_0 (i := 8) (q := 13) rfl rfl) 0 rfl rfl <|
    V_getZ (tat ok_X9_spoilt_0 (i := 9) (q := 16) rfl rfl) fk_X9_86 rfl <|
    V_if_ne (tat ok_X9_spoilt_0 (i := 10) (q := 19) rfl rfl) rfl (fun c2 => V_iconst (tat ok_X9_spoilt_0 (i := 13) (q := 23) rfl rfl) ic_0 <|
    V_istore_n (lv' := [(2, .int 0), (0, .ref 33), (1, .int a1)]) (tat ok_X9_spoilt_0 (i := 14) (q := 24) rfl rfl) rfl (Nat.le_of_ble_eq_true rfl) rfl <|
    V_bipush (tat ok_X9_spoilt_0 (i := 15) (q := 26) rfl rfl) bp_m4 <|
    V_istore_n (lv' := [(3, .int (-4)), (2, .int 0), (0, .ref 33), (1, .int a1)]) (tat ok_X9_spoilt_0 (i := 16) (q := 27) rfl rfl) rfl (Nat.le_of_ble_eq_true rfl) rfl <|
    V_iconst (tat ok_X9_spoilt_0 (i := 17) (q := 28) rfl rfl) ic_0 <|
    V_istore (lv' := [(4, .int 0), (3, .int (-4)), (2, .int 0), (0, .ref 33), (1, .int a1)]) (tat ok_X9_spoilt_0 (i := 18) (q := 30) rfl rfl) (Nat.le_of_ble_eq_true rfl) rfl <|
    V_pick [3, 4, 2, 1, 0] rfl (V_X9_spoilt_30 rfl rfl hr (jx (P := P) kk (Eq.trans (if_neg c1) (if_neg c2))))) (fun c2 => V_bipush (tat ok_X9_spoilt_0 (i := 11) (q := 21) rfl rfl) bp_m2 <|
    V_iret (tat ok_X9_spoilt_0 (i := 12) (q := 22) rfl rfl) _ rfl (nar_int _) (hr (-2) (jx (P := P) kk (Eq.trans (if_neg c1) (if_pos c2)))) ⟨(Nat.le_of_ble_eq_true rfl), (Nat.le_of_ble_eq_true rfl)⟩)) (fun c1 => V_iconst (tat ok_X9_spoilt_0 (i := 6) (q := 11) rfl rfl) ic_m1 <|
    V_iret (tat ok_X9_spoilt_0 (i := 7) (q := 12) rfl rfl) _ rfl (nar_int _) (hr (-1) (jx (P := P) kk (if_pos c1))) ⟨(Nat.le_of_ble_eq_true rfl), (Nat.le_of_ble_eq_true rfl)⟩)
theorem ct_X9_spoilt  (I : WI) (L : WL) (a1 : Int32)  : Ct x_X9_spoilt 4 [.ref 33, .int a1] ly0 I L R0 0 0 (some (.int (F_X9_spoilt I L a1)), ly0, I, L, R0) :=
  Ct_of_V mo_X9_spoilt.1 (Nat.le_of_ble_eq_true rfl) (V_X9_spoilt (P := fun x => x = (F_X9_spoilt I L a1))  (fun _ e => by rw [e]) rfl)
def F_X9_both_144_2 (I : WI) (L : WL) (a1 : Int32) (a4 : Int32) (a5 : Int32) (a2 : Int32) (a3 : Int32) : (Int32 × Int32) :=
  (a2, a3)
theorem V_X9_both_144_2  {I : WI} {L : WL} {a1 : Int32} {a4 : Int32} {a5 : Int32} {a2 : Int32} {a3 : Int32} {P : (Int32 × Int32) → Prop} {t : Tg} (hk : ∀ x : (Int32 × Int32), P x → V (zM x_X9_both 4 0 0 t) 43 [(0, .ref 33), (1, .int a1), (2, .int (p1 x)), (3, .int (p2 x)), (4, .int a4), (5, .int (a5 + 1))] [] ly0 I L R0 0 0) (kk : P (F_X9_both_144_2 I L a1 a4 a5 a2 a3)) : V (zM x_X9_both 4 0 0 t) 144 [(0, .ref 33), (1, .int a1), (2, .int a2), (3, .int a3), (4, .int a4), (5, .int a5)] [] ly0 I L R0 0 0 :=
  V_iinc (v := (a5 + 1)) (lv' := [(5, .int (a5 + 1)), (0, .ref 33), (1, .int a1), (2, .int a2), (3, .int a3), (4, .int a4)]) (tat ok_X9_both_2 (i := 2) (q := 147) rfl rfl) 5 rfl (ia ic_1) (Nat.le_of_ble_eq_true rfl) rfl <|
    V_goto (tat ok_X9_both_2 (i := 3) (q := 150) rfl rfl) rfl <|
    V_pick [1, 2, 3, 4, 5, 0] rfl (hk (a2, a3) (jx (P := P) kk rfl))
def F_X9_both_140_2 (I : WI) (L : WL) (a1 : Int32) (a4 : Int32) (a5 : Int32) (a2 : Int32) (s0 : Int32) : (Int32 × Int32) :=
  (F_X9_both_144_2 I L a1 a4 a5 (a2 + 1) s0)
theorem V_X9_both_140_2  {I : WI} {L : WL} {a1 : Int32} {a4 : Int32} {a5 : Int32} {a2 : Int32} {s0 : Int32} {P : (Int32 × Int32) → Prop} {t : Tg} (hk : ∀ x : (Int32 × Int32), P x → V (zM x_X9_both 4 0 0 t) 43 [(0, .ref 33), (1, .int a1), (2, .int (p1 x)), (3, .int (p2 x)), (4, .int a4), (5, .int (a5 + 1))] [] ly0 I L R0 0 0) (kk : P (F_X9_both_140_2 I L a1 a4 a5 a2 s0)) : V (zM x_X9_both 4 0 0 t) 140 [(0, .ref 33), (1, .int a1), (2, .int a2), (4, .int a4), (5, .int a5)] [.int s0] ly0 I L R0 0 0 :=
  V_istore_n (lv' := [(3, .int s0), (0, .ref 33), (1, .int a1), (2, .int a2), (4, .int a4), (5, .int a5)]) (tat ok_X9_both_2 (i := 0) (q := 141) rfl rfl) rfl (Nat.le_of_ble_eq_true rfl) rfl <|
    V_iinc (v := (a2 + 1)) (lv' := [(2, .int (a2 + 1)), (3, .int s0), (0, .ref 33), (1, .int a1), (4, .int a4), (5, .int a5)]) (tat ok_X9_both_2 (i := 1) (q := 144) rfl rfl) 3 rfl (ia ic_1) (Nat.le_of_ble_eq_true rfl) rfl <|
    V_pick [2, 3, 0, 1, 4, 5] rfl (V_X9_both_144_2  hk (jx (P := P) kk rfl))
def F_X9_both_89_2 (I : WI) (L : WL) (a1 : Int32) (a4 : Int32) (a5 : Int32) (a2 : Int32) (a3 : Int32) (s0 : Int32) : (Int32 × Int32) :=
  (if s0 = 0 then (F_X9_both_144_2 I L a1 a4 a5 a2 a3) else (if (lg_cmp (F_X9_formNow I ((((L 33 2) ^^^ (L 33 3)) ^^^ (lsh 1 a4)) ^^^ (lsh 1 a5))) 0) = 0 then (if a2 = 0 then (F_X9_both_140_2 I L a1 a4 a5 a2 ((64 * a4) + a5)) else (F_X9_both_140_2 I L a1 a4 a5 a2 a3)) else (F_X9_both_144_2 I L a1 a4 a5 a2 a3)))
theorem V_X9_both_89_2  {I : WI} {L : WL} {a1 : Int32} {a4 : Int32} {a5 : Int32} {a2 : Int32} {a3 : Int32} {s0 : Int32} {P : (Int32 × Int32) → Prop} {t : Tg} (hs0 : bz s0 = s0) (hk : ∀ x : (Int32 × Int32), P x → V (zM x_X9_both 4 0 0 t) 43 [(0, .ref 33), (1, .int a1), (2, .int (p1 x)), (3, .int (p2 x)), (4, .int a4), (5, .int (a5 + 1))] [] ly0 I L R0 0 0) (kk : P (F_X9_both_89_2 I L a1 a4 a5 a2 a3 s0)) : V (zM x_X9_both 4 0 0 t) 89 [(0, .ref 33), (1, .int a1), (2, .int a2), (3, .int a3), (4, .int a4), (5, .int a5)] [.int s0] ly0 I L R0 0 0 :=
  V_istore (lv' := [(6, .int s0), (0, .ref 33), (1, .int a1), (2, .int a2), (3, .int a3), (4, .int a4), (5, .int a5)]) (tat ok_X9_both_1 (i := 10) (q := 91) rfl rfl) (Nat.le_of_ble_eq_true rfl) rfl <|
    V_iload (tat ok_X9_both_1 (i := 11) (q := 93) rfl rfl) 0 rfl <|
    V_if_eq (tat ok_X9_both_1 (i := 12) (q := 96) rfl rfl) rfl (fun c4 => V_pick [1, 2, 3, 4, 5, 6] rfl (V_X9_both_144_2  hk (jx (P := P) kk (if_pos c4)))) (fun c4 => V_aload_n (tat ok_X9_both_1 (i := 13) (q := 97) rfl rfl) 1 rfl rfl <|
    V_aload_n (tat ok_X9_both_1 (i := 14) (q := 98) rfl rfl) 1 rfl rfl <|
    V_getL (tat ok_X9_both_1 (i := 15) (q := 101) rfl rfl) fk_X9_80 rfl <|
    V_aload_n (tat ok_X9_both_1 (i := 16) (q := 102) rfl rfl) 1 rfl rfl <|
    V_getL (tat ok_X9_both_1 (i := 17) (q := 105) rfl rfl) fk_X9_83 rfl <|
    V_lxor (tat ok_X9_both_1 (i := 18) (q := 106) rfl rfl) <|
    V_lconst (v := 1) (tat ok_X9_both_1 (i := 19) (q := 107) rfl rfl) rfl <|
    V_iload (tat ok_X9_both_1 (i := 20) (q := 109) rfl rfl) 5 rfl <|
    V_lshl (tat ok_X9_both_1 (i := 21) (q := 110) rfl rfl) <|
    V_lxor (tat ok_X9_both_1 (i := 22) (q := 111) rfl rfl) <|
    V_lconst (v := 1) (tat ok_X9_both_1 (i := 23) (q := 112) rfl rfl) rfl <|
    V_iload (tat ok_X9_both_1 (i := 24) (q := 114) rfl rfl) 6 rfl <|
    V_lshl (tat ok_X9_both_1 (i := 25) (q := 115) rfl rfl) <|
    V_lxor (tat ok_X9_both_1 (i := 26) (q := 116) rfl rfl) <|
    V_cv1 (ct_X9_formNow I L ((((L 33 2) ^^^ (L 33 3)) ^^^ (lsh 1 a4)) ^^^ (lsh 1 a5)) ) mo_X9_formNow (tat ok_X9_both_1 (i := 27) (q := 119) rfl rfl) ml_X9_231 rfl ⟨by decide, _, rfl, rfl⟩ ⟨(Nat.le_of_ble_eq_true rfl), (Nat.le_of_ble_eq_true rfl)⟩ ⟨(Nat.le_of_ble_eq_true rfl), (Nat.le_of_ble_eq_true rfl)⟩ (Nat.le_of_ble_eq_true rfl) <|
    V_lconst (v := 0) (tat ok_X9_both_1 (i := 28) (q := 120) rfl rfl) rfl <|
    V_lcmp (tat ok_X9_both_1 (i := 29) (q := 121) rfl rfl) <|
    V_if_ne (tat ok_X9_both_1 (i := 30) (q := 124) rfl rfl) rfl (fun c5 => V_pick [1, 2, 3, 4, 5, 6] rfl (V_X9_both_144_2  hk (jx (P := P) kk (Eq.trans (if_neg c4) (if_neg c5))))) (fun c5 => V_iload_n (tat ok_X9_both_1 (i := 31) (q := 125) rfl rfl) 3 rfl rfl <|
    V_if_ne (tat ok_X9_both_1 (i := 32) (q := 128) rfl rfl) rfl (fun c6 => V_iload_n (tat ok_X9_both_1 (i := 39) (q := 140) rfl rfl) 4 rfl rfl <|
    V_pick [1, 2, 3, 5, 6] rfl (V_X9_both_140_2  hk (jx (P := P) kk (Eq.trans (if_neg c4) (Eq.trans (if_pos c5) (if_neg c6)))))) (fun c6 => V_bipush (tat ok_X9_both_1 (i := 33) (q := 130) rfl rfl) bp_64 <|
    V_iload (tat ok_X9_both_1 (i := 34) (q := 132) rfl rfl) 5 rfl <|
    V_imul (tat ok_X9_both_1 (i := 35) (q := 133) rfl rfl) <|
    V_iload (tat ok_X9_both_1 (i := 36) (q := 135) rfl rfl) 6 rfl <|
    V_iadd (tat ok_X9_both_1 (i := 37) (q := 136) rfl rfl) <|
    V_goto (tat ok_X9_both_1 (i := 38) (q := 139) rfl rfl) rfl <|
    V_pick [1, 2, 3, 5, 6] rfl (V_X9_both_140_2  hk (jx (P := P) kk (Eq.trans (if_neg c4) (Eq.trans (if_pos c5) (if_pos c6))))))))
def F_X9_both_88_2 (I : WI) (L : WL) (a1 : Int32) (a4 : Int32) (a5 : Int32) (a2 : Int32) (a3 : Int32) : (Int32 × Int32) :=
  (F_X9_both_89_2 I L a1 a4 a5 a2 a3 0)
theorem V_X9_both_88_2  {I : WI} {L : WL} {a1 : Int32} {a4 : Int32} {a5 : Int32} {a2 : Int32} {a3 : Int32} {P : (Int32 × Int32) → Prop} {t : Tg} (hk : ∀ x : (Int32 × Int32), P x → V (zM x_X9_both 4 0 0 t) 43 [(0, .ref 33), (1, .int a1), (2, .int (p1 x)), (3, .int (p2 x)), (4, .int a4), (5, .int (a5 + 1))] [] ly0 I L R0 0 0) (kk : P (F_X9_both_88_2 I L a1 a4 a5 a2 a3)) : V (zM x_X9_both 4 0 0 t) 88 [(0, .ref 33), (1, .int a1), (2, .int a2), (3, .int a3), (4, .int a4), (5, .int a5)] [] ly0 I L R0 0 0 :=
  V_iconst (tat ok_X9_both_1 (i := 9) (q := 89) rfl rfl) ic_0 <|
    V_X9_both_89_2 rfl hk (jx (P := P) kk rfl)
def F_X9_both_50_2 (I : WI) (L : WL) (a1 : Int32) (a4 : Int32) (a5 : Int32) (a2 : Int32) (a3 : Int32) : (Int32 × Int32) :=
  (if (F_X9_isSquare I (a4 / 8) (a4 - a4 / 8 * 8)) = 0 then (F_X9_both_88_2 I L a1 a4 a5 a2 a3) else (if (F_X9_isSquare I (a5 / 8) (a5 - a5 / 8 * 8)) = 0 then (F_X9_both_88_2 I L a1 a4 a5 a2 a3) else (F_X9_both_89_2 I L a1 a4 a5 a2 a3 1)))
theorem V_X9_both_50_2  {I : WI} {L : WL} {a1 : Int32} {a4 : Int32} {a5 : Int32} {a2 : Int32} {a3 : Int32} {P : (Int32 × Int32) → Prop} {t : Tg} (hk : ∀ x : (Int32 × Int32), P x → V (zM x_X9_both 4 0 0 t) 43 [(0, .ref 33), (1, .int a1), (2, .int (p1 x)), (3, .int (p2 x)), (4, .int a4), (5, .int (a5 + 1))] [] ly0 I L R0 0 0) (kk : P (F_X9_both_50_2 I L a1 a4 a5 a2 a3)) : V (zM x_X9_both 4 0 0 t) 50 [(0, .ref 33), (1, .int a1), (2, .int a2), (3, .int a3), (4, .int a4), (5, .int a5)] [] ly0 I L R0 0 0 :=
  V_aload_n (tat ok_X9_both_0 (i := 29) (q := 51) rfl rfl) 0 rfl rfl <|
    V_iload (tat ok_X9_both_0 (i := 30) (q := 53) rfl rfl) 4 rfl <|
    V_bipush (tat ok_X9_both_0 (i := 31) (q := 55) rfl rfl) bp_8 <|
    V_idiv (tat ok_X9_both_0 (i := 32) (q := 56) rfl rfl) (by decide) <|
    V_iload (tat ok_X9_both_0 (i := 33) (q := 58) rfl rfl) 4 rfl <|
    V_bipush (tat ok_X9_both_0 (i := 34) (q := 60) rfl rfl) bp_8 <|
    V_irem (tat ok_X9_both_0 (i := 35) (q := 61) rfl rfl) (by decide) <|
    V_cv2 (ct_X9_isSquare I L (a4 / 8) (a4 - a4 / 8 * 8) ) mo_X9_isSquare (tat ok_X9_both_0 (i := 36) (q := 64) rfl rfl) ml_X9_206 rfl ⟨by decide, _, rfl, rfl⟩ ⟨(Nat.le_of_ble_eq_true rfl), (Nat.le_of_ble_eq_true rfl)⟩ ⟨(Nat.le_of_ble_eq_true rfl), (Nat.le_of_ble_eq_true rfl)⟩ (Nat.le_of_ble_eq_true rfl) <|
    V_if_eq (tat ok_X9_both_0 (i := 37) (q := 67) rfl rfl) rfl (fun c3 => V_X9_both_88_2  hk (jx (P := P) kk (if_pos c3))) (fun c3 => V_aload_n (tat ok_X9_both_0 (i := 38) (q := 68) rfl rfl) 0 rfl rfl <|
    V_iload (tat ok_X9_both_0 (i := 39) (q := 70) rfl rfl) 5 rfl <|
    V_bipush (tat ok_X9_both_1 (i := 0) (q := 72) rfl rfl) bp_8 <|
    V_idiv (tat ok_X9_both_1 (i := 1) (q := 73) rfl rfl) (by decide) <|
    V_iload (tat ok_X9_both_1 (i := 2) (q := 75) rfl rfl) 5 rfl <|
    V_bipush (tat ok_X9_both_1 (i := 3) (q := 77) rfl rfl) bp_8 <|
    V_irem (tat ok_X9_both_1 (i := 4) (q := 78) rfl rfl) (by decide) <|
    V_cv2 (ct_X9_isSquare I L (a5 / 8) (a5 - a5 / 8 * 8) ) mo_X9_isSquare (tat ok_X9_both_1 (i := 5) (q := 81) rfl rfl) ml_X9_206 rfl ⟨by decide, _, rfl, rfl⟩ ⟨(Nat.le_of_ble_eq_true rfl), (Nat.le_of_ble_eq_true rfl)⟩ ⟨(Nat.le_of_ble_eq_true rfl), (Nat.le_of_ble_eq_true rfl)⟩ (Nat.le_of_ble_eq_true rfl) <|
    V_if_eq (tat ok_X9_both_1 (i := 6) (q := 84) rfl rfl) rfl (fun c7 => V_X9_both_88_2  hk (jx (P := P) kk (Eq.trans (if_neg c3) (if_pos c7)))) (fun c7 => V_iconst (tat ok_X9_both_1 (i := 7) (q := 85) rfl rfl) ic_1 <|
    V_goto (tat ok_X9_both_1 (i := 8) (q := 88) rfl rfl) rfl <|
    V_X9_both_89_2 rfl hk (jx (P := P) kk (Eq.trans (if_neg c3) (if_neg c7)))))
def F_X9_both_150_1 (I : WI) (L : WL) (a1 : Int32) (a4 : Int32) (a2 : Int32) (a3 : Int32) : (Int32 × Int32) :=
  (a2, a3)
theorem V_X9_both_150_1  {I : WI} {L : WL} {a1 : Int32} {a4 : Int32} {a2 : Int32} {a3 : Int32} {P : (Int32 × Int32) → Prop} {t : Tg} (hk : ∀ x : (Int32 × Int32), P x → V (zM x_X9_both 4 0 0 t) 30 [(0, .ref 33), (1, .int a1), (2, .int (p1 x)), (3, .int (p2 x)), (4, .int (a4 + 1))] [] ly0 I L R0 0 0) (kk : P (F_X9_both_150_1 I L a1 a4 a2 a3)) : V (zM x_X9_both 4 0 0 t) 150 [(0, .ref 33), (1, .int a1), (2, .int a2), (3, .int a3), (4, .int a4)] [] ly0 I L R0 0 0 :=
  V_iinc (v := (a4 + 1)) (lv' := [(4, .int (a4 + 1)), (0, .ref 33), (1, .int a1), (2, .int a2), (3, .int a3)]) (tat ok_X9_both_2 (i := 4) (q := 153) rfl rfl) 4 rfl (ia ic_1) (Nat.le_of_ble_eq_true rfl) rfl <|
    V_goto (tat ok_X9_both_2 (i := 5) (q := 156) rfl rfl) rfl <|
    V_pick [1, 2, 3, 4, 0] rfl (hk (a2, a3) (jx (P := P) kk rfl))
def F_X9_both_43_1 (I : WI) (L : WL) (a1 : Int32) (a4 : Int32) (a2 : Int32) (a3 : Int32) (a5 : Int32) : (Int32 × Int32) :=
  (fun q : Int32 × (Int32 × Int32) => (F_X9_both_150_1 I L a1 a4 (p1 (p2 q)) (p2 (p2 q)))) (fr0 (fun i x => (F_X9_both_50_2 I L a1 a4 i (p1 x) (p2 x))) 64 (fu a5 64) a5 (a2, a3))
theorem V_X9_both_43_1  {I : WI} {L : WL} {a1 : Int32} {a4 : Int32} {a2 : Int32} {a3 : Int32} {a5 : Int32} {P : (Int32 × Int32) → Prop} {t : Tg} (hk : ∀ x : (Int32 × Int32), P x → V (zM x_X9_both 4 0 0 t) 30 [(0, .ref 33), (1, .int a1), (2, .int (p1 x)), (3, .int (p2 x)), (4, .int (a4 + 1))] [] ly0 I L R0 0 0) (kk : P (F_X9_both_43_1 I L a1 a4 a2 a3 a5)) : V (zM x_X9_both 4 0 0 t) 43 [(0, .ref 33), (1, .int a1), (2, .int a2), (3, .int a3), (4, .int a4), (5, .int a5)] [] ly0 I L R0 0 0 :=
  V_fr0 (fun i x => (F_X9_both_50_2 I L a1 a4 i (p1 x) (p2 x))) 64 (fun i x => V (zM x_X9_both 4 0 0 t) 43 [(0, .ref 33), (1, .int a1), (2, .int (p1 x)), (3, .int (p2 x)), (4, .int a4), (5, .int i)] [] ly0 I L R0 0 0) (fun i x => P ((F_X9_both_150_1 I L a1 a4 (p1 x) (p2 x)))) (c := a5) (s := (a2, a3)) (fun i x kx kb => V_iload (tat ok_X9_both_0 (i := 26) (q := 45) rfl rfl) 5 rfl <|
    V_bipush (tat ok_X9_both_0 (i := 27) (q := 47) rfl rfl) bp_64 <|
    V_icmp_ge (tat ok_X9_both_0 (i := 28) (q := 50) rfl rfl) rfl (fun c0 => V_pick [0, 1, 2, 3, 4] rfl (V_X9_both_150_1  hk (kx c0))) (fun c0 => V_X9_both_50_2 (P := (fun x => (fun i x => V (zM x_X9_both 4 0 0 t) 43 [(0, .ref 33), (1, .int a1), (2, .int (p1 x)), (3, .int (p2 x)), (4, .int a4), (5, .int i)] [] ly0 I L R0 0 0) (i + 1) x))  (fun _ e => e) (kb c0))) kk
def F_X9_both_37_1 (I : WI) (L : WL) (a1 : Int32) (a4 : Int32) (a2 : Int32) (a3 : Int32) : (Int32 × Int32) :=
  (F_X9_both_43_1 I L a1 a4 a2 a3 (a4 + 1))
theorem V_X9_both_37_1  {I : WI} {L : WL} {a1 : Int32} {a4 : Int32} {a2 : Int32} {a3 : Int32} {P : (Int32 × Int32) → Prop} {t : Tg} (hk : ∀ x : (Int32 × Int32), P x → V (zM x_X9_both 4 0 0 t) 30 [(0, .ref 33), (1, .int a1), (2, .int (p1 x)), (3, .int (p2 x)), (4, .int (a4 + 1))] [] ly0 I L R0 0 0) (kk : P (F_X9_both_37_1 I L a1 a4 a2 a3)) : V (zM x_X9_both 4 0 0 t) 37 [(0, .ref 33), (1, .int a1), (2, .int a2), (3, .int a3), (4, .int a4)] [] ly0 I L R0 0 0 :=
  V_iload (tat ok_X9_both_0 (i := 22) (q := 39) rfl rfl) 4 rfl <|
    V_iconst (tat ok_X9_both_0 (i := 23) (q := 40) rfl rfl) ic_1 <|
    V_iadd (tat ok_X9_both_0 (i := 24) (q := 41) rfl rfl) <|
    V_istore (lv' := [(5, .int (a4 + 1)), (0, .ref 33), (1, .int a1), (2, .int a2), (3, .int a3), (4, .int a4)]) (tat ok_X9_both_0 (i := 25) (q := 43) rfl rfl) (Nat.le_of_ble_eq_true rfl) rfl <|
    V_pick [1, 2, 3, 4, 5, 0] rfl (V_X9_both_43_1  hk (jx (P := P) kk rfl))
def F_X9_both_165 (I : WI) (L : WL) (a1 : Int32) (s0 : Int32) : Int32 :=
  s0
theorem V_X9_both_165  {I : WI} {L : WL} {a1 : Int32} {s0 : Int32} {P : Int32 → Prop} {t : Tg} (hr : ∀ v, P v → t = (some (.int v), ly0, I, L, R0)) (kk : P (F_X9_both_165 I L a1 s0)) : V (zM x_X9_both 4 0 0 t) 165 [(0, .ref 33), (1, .int a1)] [.int s0] ly0 I L R0 0 0 :=
  V_iret (tat ok_X9_both_2 (i := 11) (q := 166) rfl rfl) _ rfl (nar_int _) (hr s0 (jx (P := P) kk rfl)) ⟨(Nat.le_of_ble_eq_true rfl), (Nat.le_of_ble_eq_true rfl)⟩
def F_X9_both_156 (I : WI) (L : WL) (a1 : Int32) (a2 : Int32) (a3 : Int32) : Int32 :=
  (if a1 = 0 then (F_X9_both_165 I L a1 a2) else (F_X9_both_165 I L a1 a3))
theorem V_X9_both_156  {I : WI} {L : WL} {a1 : Int32} {a2 : Int32} {a3 : Int32} {P : Int32 → Prop} {t : Tg} (hr : ∀ v, P v → t = (some (.int v), ly0, I, L, R0)) (kk : P (F_X9_both_156 I L a1 a2 a3)) : V (zM x_X9_both 4 0 0 t) 156 [(0, .ref 33), (1, .int a1), (2, .int a2), (3, .int a3)] [] ly0 I L R0 0 0 :=
  V_iload_n (tat ok_X9_both_2 (i := 6) (q := 157) rfl rfl) 1 rfl rfl <|
    V_if_ne (tat ok_X9_both_2 (i := 7) (q := 160) rfl rfl) rfl (fun c8 => V_iload_n (tat ok_X9_both_2 (i := 10) (q := 165) rfl rfl) 3 rfl rfl <|
    V_pick [0, 1] rfl (V_X9_both_165  hr (jx (P := P) kk (if_neg c8)))) (fun c8 => V_iload_n (tat ok_X9_both_2 (i := 8) (q := 161) rfl rfl) 2 rfl rfl <|
    V_goto (tat ok_X9_both_2 (i := 9) (q := 164) rfl rfl) rfl <|
    V_pick [0, 1] rfl (V_X9_both_165  hr (jx (P := P) kk (if_pos c8))))
def F_X9_both_30 (I : WI) (L : WL) (a1 : Int32) (a2 : Int32) (a3 : Int32) (a4 : Int32) : Int32 :=
  (fun q : Int32 × (Int32 × Int32) => (F_X9_both_156 I L a1 (p1 (p2 q)) (p2 (p2 q)))) (fr0 (fun i x => (F_X9_both_37_1 I L a1 i (p1 x) (p2 x))) 64 (fu a4 64) a4 (a2, a3))
theorem V_X9_both_30  {I : WI} {L : WL} {a1 : Int32} {a2 : Int32} {a3 : Int32} {a4 : Int32} {P : Int32 → Prop} {t : Tg} (hb2 : bz a2 = a2) (hb4 : bz a4 = a4) (hr : ∀ v, P v → t = (some (.int v), ly0, I, L, R0)) (kk : P (F_X9_both_30 I L a1 a2 a3 a4)) : V (zM x_X9_both 4 0 0 t) 30 [(0, .ref 33), (1, .int a1), (2, .int a2), (3, .int a3), (4, .int a4)] [] ly0 I L R0 0 0 :=
  V_fr0 (fun i x => (F_X9_both_37_1 I L a1 i (p1 x) (p2 x))) 64 (fun i x => V (zM x_X9_both 4 0 0 t) 30 [(0, .ref 33), (1, .int a1), (2, .int (p1 x)), (3, .int (p2 x)), (4, .int i)] [] ly0 I L R0 0 0) (fun i x => P ((F_X9_both_156 I L a1 (p1 x) (p2 x)))) (c := a4) (s := (a2, a3)) (fun i x kx kb => V_iload (tat ok_X9_both_0 (i := 19) (q := 32) rfl rfl) 4 rfl <|
    V_bipush (tat ok_X9_both_0 (i := 20) (q := 34) rfl rfl) bp_64 <|
    V_icmp_ge (tat ok_X9_both_0 (i := 21) (q := 37) rfl rfl) rfl (fun c0 => V_pick [0, 1, 2, 3] rfl (V_X9_both_156  hr (kx c0))) (fun c0 => V_X9_both_37_1 (P := (fun x => (fun i x => V (zM x_X9_both 4 0 0 t) 30 [(0, .ref 33), (1, .int a1), (2, .int (p1 x)), (3, .int (p2 x)), (4, .int i)] [] ly0 I L R0 0 0) (i + 1) x))  (fun _ e => e) (kb c0))) kk
def F_X9_both (I : WI) (L : WL) (a1 : Int32) : Int32 :=
  (if (F_X9_in (Int32.toInt64 a1) 0 1) = 0 then (-1) else (if (bz (I 33 4)) = 0 then (-2) else (F_X9_both_30 I L a1 0 (-4) 0)))
theorem V_X9_both  {I : WI} {L : WL} {a1 : Int32}  {P : Int32 → Prop} {t : Tg} (hr : ∀ v, P v → t = (some (.int v), ly0, I, L, R0)) (kk : P (F_X9_both I L a1)) : V (zM x_X9_both 4 0 0 t) 0 [(0, .ref 33), (1, .int a1)] [] ly0 I L R0 0 0 :=
  V_iload_n (tat ok_X9_both_0 (i := 0) (q := 1) rfl rfl) 1 rfl rfl <|
    V_i2l (tat ok_X9_both_0 (i := 1) (q := 2) rfl rfl) <|
    V_lconst (v := 0) (tat ok_X9_both_0 (i := 2) (q := 3) rfl rfl) rfl <|
    V_lconst (v := 1) (tat ok_X9_both_0 (i := 3) (q := 4) rfl rfl) rfl <|
    V_cs3 (ct_X9_in I L (Int32.toInt64 a1) 0 1 ) mo_X9_in (tat ok_X9_both_0 (i := 4) (q := 7) rfl rfl) ml_X9_97 ⟨(Nat.le_of_ble_eq_true rfl), (Nat.le_of_ble_eq_true rfl)⟩ ⟨(Nat.le_of_ble_eq_true rfl), (Nat.le_of_ble_eq_true rfl)⟩ (Nat.le_of_ble_eq_true rfl) <|
    V_if_ne (tat ok_X9_both_0 (i := 5) (q := 10) rfl rfl) rfl (fun c1 => V_aload_n (tat ok_X9_both_0 (i := 8) (q := 13) rfl rfl) 0 rfl rfl <|
    V_getZ (tat ok_X9_both_0 (i := 9) (q := 16) rfl rfl) fk_X9_86 rfl <|
    V_if_ne (tat ok_X9_both_0 (i := 10) (q := 19) rfl rfl) rfl (fun c2 => V_iconst (tat ok_X9_both_0 (i := 13) (q := 23) rfl rfl) ic_0 <|
    V_istore_n (lv' := [(2, .int 0), (0, .ref 33), (1, .int a1)]) (tat ok_X9_both_0 (i := 14) (q := 24) rfl rfl) rfl (Nat.le_of_ble_eq_true rfl) rfl <|
    V_bipush (tat ok_X9_both_0 (i := 15) (q := 26) rfl rfl) bp_m4 <|
    V_istore_n (lv' := [(3, .int (-4)), (2, .int 0), (0, .ref 33), (1, .int a1)]) (tat ok_X9_both_0 (i := 16) (q := 27) rfl rfl) rfl (Nat.le_of_ble_eq_true rfl) rfl <|
    V_iconst (tat ok_X9_both_0 (i := 17) (q := 28) rfl rfl) ic_0 <|
    V_istore (lv' := [(4, .int 0), (3, .int (-4)), (2, .int 0), (0, .ref 33), (1, .int a1)]) (tat ok_X9_both_0 (i := 18) (q := 30) rfl rfl) (Nat.le_of_ble_eq_true rfl) rfl <|
    V_pick [3, 4, 2, 1, 0] rfl (V_X9_both_30 rfl rfl hr (jx (P := P) kk (Eq.trans (if_neg c1) (if_neg c2))))) (fun c2 => V_bipush (tat ok_X9_both_0 (i := 11) (q := 21) rfl rfl) bp_m2 <|
    V_iret (tat ok_X9_both_0 (i := 12) (q := 22) rfl rfl) _ rfl (nar_int _) (hr (-2) (jx (P := P) kk (Eq.trans (if_neg c1) (if_pos c2)))) ⟨(Nat.le_of_ble_eq_true rfl), (Nat.le_of_ble_eq_true rfl)⟩)) (fun c1 => V_iconst (tat ok_X9_both_0 (i := 6) (q := 11) rfl rfl) ic_m1 <|
    V_iret (tat ok_X9_both_0 (i := 7) (q := 12) rfl rfl) _ rfl (nar_int _) (hr (-1) (jx (P := P) kk (if_pos c1))) ⟨(Nat.le_of_ble_eq_true rfl), (Nat.le_of_ble_eq_true rfl)⟩)
theorem ct_X9_both  (I : WI) (L : WL) (a1 : Int32)  : Ct x_X9_both 4 [.ref 33, .int a1] ly0 I L R0 0 0 (some (.int (F_X9_both I L a1)), ly0, I, L, R0) :=
  Ct_of_V mo_X9_both.1 (Nat.le_of_ble_eq_true rfl) (V_X9_both (P := fun x => x = (F_X9_both I L a1))  (fun _ e => by rw [e]) rfl)
def F_X9_mirrored_50_2 (a0 : Int64) (a2 : Int32) (a3 : Int32) (a6 : Int32) (a7 : Int32) (s0 : Int64) (s1 : Int64) : Int64 :=
  (s1 ||| s0)
theorem V_X9_mirrored_50_2  {I : WI} {L : WL} {a0 : Int64} {a2 : Int32} {a3 : Int32} {a6 : Int32} {a7 : Int32} {s0 : Int64} {s1 : Int64} {P : Int64 → Prop} {t : Tg} (hk : ∀ x : Int64, P x → V (zM x_X9_mirrored 2 0 0 t) 15 [(0, .long a0), (2, .int a2), (3, .int a3), (4, .long x), (6, .int a6), (7, .int (a7 + 1))] [] ly0 I L R0 0 0) (kk : P (F_X9_mirrored_50_2 a0 a2 a3 a6 a7 s0 s1)) : V (zM x_X9_mirrored 2 0 0 t) 50 [(0, .long a0), (2, .int a2), (3, .int a3), (6, .int a6), (7, .int a7)] [.long s0, .long s1] ly0 I L R0 0 0 :=
  V_lor (tat ok_X9_mirrored_0 (i := 28) (q := 51) rfl rfl) <|
    V_lstore (lv' := [(4, .long (s1 ||| s0)), (0, .long a0), (2, .int a2), (3, .int a3), (6, .int a6), (7, .int a7)]) (tat ok_X9_mirrored_0 (i := 29) (q := 53) rfl rfl) (Nat.le_of_ble_eq_true rfl) rfl <|
    V_iinc (v := (a7 + 1)) (lv' := [(7, .int (a7 + 1)), (4, .long (s1 ||| s0)), (0, .long a0), (2, .int a2), (3, .int a3), (6, .int a6)]) (tat ok_X9_mirrored_0 (i := 30) (q := 56) rfl rfl) 5 rfl (ia ic_1) (Nat.le_of_ble_eq_true rfl) rfl <|
    V_goto (tat ok_X9_mirrored_0 (i := 31) (q := 59) rfl rfl) rfl <|
    V_pick [2, 3, 4, 1, 5, 0] rfl (hk (s1 ||| s0) (jx (P := P) kk rfl))
def F_X9_mirrored_21_2 (a0 : Int64) (a2 : Int32) (a3 : Int32) (a6 : Int32) (a7 : Int32) (a4 : Int64) : Int64 :=
  (if (F_X9_isDark a0 a6 a7) = 1 then (F_X9_mirrored_50_2 a0 a2 a3 a6 a7 (F_X9_bitOf a6 ((a3 - 1) - a7)) a4) else (F_X9_mirrored_50_2 a0 a2 a3 a6 a7 0 a4))
theorem V_X9_mirrored_21_2  {I : WI} {L : WL} {a0 : Int64} {a2 : Int32} {a3 : Int32} {a6 : Int32} {a7 : Int32} {a4 : Int64} {P : Int64 → Prop} {t : Tg} (hk : ∀ x : Int64, P x → V (zM x_X9_mirrored 2 0 0 t) 15 [(0, .long a0), (2, .int a2), (3, .int a3), (4, .long x), (6, .int a6), (7, .int (a7 + 1))] [] ly0 I L R0 0 0) (kk : P (F_X9_mirrored_21_2 a0 a2 a3 a6 a7 a4)) : V (zM x_X9_mirrored 2 0 0 t) 21 [(0, .long a0), (2, .int a2), (3, .int a3), (4, .long a4), (6, .int a6), (7, .int a7)] [] ly0 I L R0 0 0 :=
  V_lload (tat ok_X9_mirrored_0 (i := 12) (q := 23) rfl rfl) 3 rfl <|
    V_lload_n (tat ok_X9_mirrored_0 (i := 13) (q := 24) rfl rfl) 0 rfl rfl <|
    V_iload (tat ok_X9_mirrored_0 (i := 14) (q := 26) rfl rfl) 4 rfl <|
    V_iload (tat ok_X9_mirrored_0 (i := 15) (q := 28) rfl rfl) 5 rfl <|
    V_cs3 (ct_X9_isDark I L a0 a6 a7 ) mo_X9_isDark (tat ok_X9_mirrored_0 (i := 16) (q := 31) rfl rfl) ml_X9_210 ⟨(Nat.le_of_ble_eq_true rfl), (Nat.le_of_ble_eq_true rfl)⟩ ⟨(Nat.le_of_ble_eq_true rfl), (Nat.le_of_ble_eq_true rfl)⟩ (Nat.le_of_ble_eq_true rfl) <|
    V_iconst (tat ok_X9_mirrored_0 (i := 17) (q := 32) rfl rfl) ic_1 <|
    V_icmp_ne (tat ok_X9_mirrored_0 (i := 18) (q := 35) rfl rfl) rfl (fun c1 => V_lconst (v := 0) (tat ok_X9_mirrored_0 (i := 27) (q := 50) rfl rfl) rfl <|
    V_pick [0, 1, 2, 4, 5] rfl (V_X9_mirrored_50_2  hk (jx (P := P) kk (if_neg c1)))) (fun c1 => V_iload (tat ok_X9_mirrored_0 (i := 19) (q := 37) rfl rfl) 4 rfl <|
    V_iload_n (tat ok_X9_mirrored_0 (i := 20) (q := 38) rfl rfl) 2 rfl rfl <|
    V_iconst (tat ok_X9_mirrored_0 (i := 21) (q := 39) rfl rfl) ic_1 <|
    V_isub (tat ok_X9_mirrored_0 (i := 22) (q := 40) rfl rfl) <|
    V_iload (tat ok_X9_mirrored_0 (i := 23) (q := 42) rfl rfl) 5 rfl <|
    V_isub (tat ok_X9_mirrored_0 (i := 24) (q := 43) rfl rfl) <|
    V_cs2 (ct_X9_bitOf I L a6 ((a3 - 1) - a7) ) mo_X9_bitOf (tat ok_X9_mirrored_0 (i := 25) (q := 46) rfl rfl) ml_X9_155 ⟨(Nat.le_of_ble_eq_true rfl), (Nat.le_of_ble_eq_true rfl)⟩ ⟨(Nat.le_of_ble_eq_true rfl), (Nat.le_of_ble_eq_true rfl)⟩ (Nat.le_of_ble_eq_true rfl) <|
    V_goto (tat ok_X9_mirrored_0 (i := 26) (q := 49) rfl rfl) rfl <|
    V_pick [0, 1, 2, 4, 5] rfl (V_X9_mirrored_50_2  hk (jx (P := P) kk (if_pos c1))))
def F_X9_mirrored_59_1 (a0 : Int64) (a2 : Int32) (a3 : Int32) (a6 : Int32) (a4 : Int64) : Int64 :=
  a4
theorem V_X9_mirrored_59_1  {I : WI} {L : WL} {a0 : Int64} {a2 : Int32} {a3 : Int32} {a6 : Int32} {a4 : Int64} {P : Int64 → Prop} {t : Tg} (hk : ∀ x : Int64, P x → V (zM x_X9_mirrored 2 0 0 t) 6 [(0, .long a0), (2, .int a2), (3, .int a3), (4, .long x), (6, .int (a6 + 1))] [] ly0 I L R0 0 0) (kk : P (F_X9_mirrored_59_1 a0 a2 a3 a6 a4)) : V (zM x_X9_mirrored 2 0 0 t) 59 [(0, .long a0), (2, .int a2), (3, .int a3), (4, .long a4), (6, .int a6)] [] ly0 I L R0 0 0 :=
  V_iinc (v := (a6 + 1)) (lv' := [(6, .int (a6 + 1)), (0, .long a0), (2, .int a2), (3, .int a3), (4, .long a4)]) (tat ok_X9_mirrored_0 (i := 32) (q := 62) rfl rfl) 4 rfl (ia ic_1) (Nat.le_of_ble_eq_true rfl) rfl <|
    V_goto (tat ok_X9_mirrored_0 (i := 33) (q := 65) rfl rfl) rfl <|
    V_pick [1, 2, 3, 4, 0] rfl (hk a4 (jx (P := P) kk rfl))
def F_X9_mirrored_15_1 (a0 : Int64) (a2 : Int32) (a3 : Int32) (a6 : Int32) (a4 : Int64) (a7 : Int32) : Int64 :=
  (fun q : Int32 × Int64 => (F_X9_mirrored_59_1 a0 a2 a3 a6 (p2 q))) (fr0 (fun i x => (F_X9_mirrored_21_2 a0 a2 a3 a6 i x)) a3 (fu a7 a3) a7 a4)
theorem V_X9_mirrored_15_1  {I : WI} {L : WL} {a0 : Int64} {a2 : Int32} {a3 : Int32} {a6 : Int32} {a4 : Int64} {a7 : Int32} {P : Int64 → Prop} {t : Tg} (hb7 : bz a7 = a7) (hk : ∀ x : Int64, P x → V (zM x_X9_mirrored 2 0 0 t) 6 [(0, .long a0), (2, .int a2), (3, .int a3), (4, .long x), (6, .int (a6 + 1))] [] ly0 I L R0 0 0) (kk : P (F_X9_mirrored_15_1 a0 a2 a3 a6 a4 a7)) : V (zM x_X9_mirrored 2 0 0 t) 15 [(0, .long a0), (2, .int a2), (3, .int a3), (4, .long a4), (6, .int a6), (7, .int a7)] [] ly0 I L R0 0 0 :=
  V_fr0 (fun i x => (F_X9_mirrored_21_2 a0 a2 a3 a6 i x)) a3 (fun i x => V (zM x_X9_mirrored 2 0 0 t) 15 [(0, .long a0), (2, .int a2), (3, .int a3), (4, .long x), (6, .int a6), (7, .int i)] [] ly0 I L R0 0 0) (fun i x => P ((F_X9_mirrored_59_1 a0 a2 a3 a6 x))) (c := a7) (s := a4) (fun i x kx kb => V_iload (tat ok_X9_mirrored_0 (i := 9) (q := 17) rfl rfl) 5 rfl <|
    V_iload_n (tat ok_X9_mirrored_0 (i := 10) (q := 18) rfl rfl) 2 rfl rfl <|
    V_icmp_ge (tat ok_X9_mirrored_0 (i := 11) (q := 21) rfl rfl) rfl (fun c0 => V_pick [0, 1, 2, 3, 4] rfl (V_X9_mirrored_59_1  hk (kx c0))) (fun c0 => V_X9_mirrored_21_2 (P := (fun x => (fun i x => V (zM x_X9_mirrored 2 0 0 t) 15 [(0, .long a0), (2, .int a2), (3, .int a3), (4, .long x), (6, .int a6), (7, .int i)] [] ly0 I L R0 0 0) (i + 1) x))  (fun _ e => e) (kb c0))) kk
def F_X9_mirrored_12_1 (a0 : Int64) (a2 : Int32) (a3 : Int32) (a6 : Int32) (a4 : Int64) : Int64 :=
  (F_X9_mirrored_15_1 a0 a2 a3 a6 a4 0)
theorem V_X9_mirrored_12_1  {I : WI} {L : WL} {a0 : Int64} {a2 : Int32} {a3 : Int32} {a6 : Int32} {a4 : Int64} {P : Int64 → Prop} {t : Tg} (hk : ∀ x : Int64, P x → V (zM x_X9_mirrored 2 0 0 t) 6 [(0, .long a0), (2, .int a2), (3, .int a3), (4, .long x), (6, .int (a6 + 1))] [] ly0 I L R0 0 0) (kk : P (F_X9_mirrored_12_1 a0 a2 a3 a6 a4)) : V (zM x_X9_mirrored 2 0 0 t) 12 [(0, .long a0), (2, .int a2), (3, .int a3), (4, .long a4), (6, .int a6)] [] ly0 I L R0 0 0 :=
  V_iconst (tat ok_X9_mirrored_0 (i := 7) (q := 13) rfl rfl) ic_0 <|
    V_istore (lv' := [(7, .int 0), (0, .long a0), (2, .int a2), (3, .int a3), (4, .long a4), (6, .int a6)]) (tat ok_X9_mirrored_0 (i := 8) (q := 15) rfl rfl) (Nat.le_of_ble_eq_true rfl) rfl <|
    V_pick [1, 2, 3, 4, 5, 0] rfl (V_X9_mirrored_15_1 rfl hk (jx (P := P) kk rfl))
def F_X9_mirrored_65 (a0 : Int64) (a2 : Int32) (a3 : Int32) (a4 : Int64) : Int64 :=
  a4
theorem V_X9_mirrored_65  {I : WI} {L : WL} {a0 : Int64} {a2 : Int32} {a3 : Int32} {a4 : Int64} {P : Int64 → Prop} {t : Tg} (hr : ∀ v, P v → t = (some (.long v), ly0, I, L, R0)) (kk : P (F_X9_mirrored_65 a0 a2 a3 a4)) : V (zM x_X9_mirrored 2 0 0 t) 65 [(0, .long a0), (2, .int a2), (3, .int a3), (4, .long a4)] [] ly0 I L R0 0 0 :=
  V_lload (tat ok_X9_mirrored_0 (i := 34) (q := 67) rfl rfl) 3 rfl <|
    V_lret (tat ok_X9_mirrored_0 (i := 35) (q := 68) rfl rfl) rfl (hr a4 (jx (P := P) kk rfl)) ⟨(Nat.le_of_ble_eq_true rfl), (Nat.le_of_ble_eq_true rfl)⟩
def F_X9_mirrored_6 (a0 : Int64) (a2 : Int32) (a3 : Int32) (a4 : Int64) (a6 : Int32) : Int64 :=
  (fun q : Int32 × Int64 => (F_X9_mirrored_65 a0 a2 a3 (p2 q))) (fr0 (fun i x => (F_X9_mirrored_12_1 a0 a2 a3 i x)) a2 (fu a6 a2) a6 a4)
theorem V_X9_mirrored_6  {I : WI} {L : WL} {a0 : Int64} {a2 : Int32} {a3 : Int32} {a4 : Int64} {a6 : Int32} {P : Int64 → Prop} {t : Tg} (hb6 : bz a6 = a6) (hr : ∀ v, P v → t = (some (.long v), ly0, I, L, R0)) (kk : P (F_X9_mirrored_6 a0 a2 a3 a4 a6)) : V (zM x_X9_mirrored 2 0 0 t) 6 [(0, .long a0), (2, .int a2), (3, .int a3), (4, .long a4), (6, .int a6)] [] ly0 I L R0 0 0 :=
  V_fr0 (fun i x => (F_X9_mirrored_12_1 a0 a2 a3 i x)) a2 (fun i x => V (zM x_X9_mirrored 2 0 0 t) 6 [(0, .long a0), (2, .int a2), (3, .int a3), (4, .long x), (6, .int i)] [] ly0 I L R0 0 0) (fun i x => P ((F_X9_mirrored_65 a0 a2 a3 x))) (c := a6) (s := a4) (fun i x kx kb => V_iload (tat ok_X9_mirrored_0 (i := 4) (q := 8) rfl rfl) 4 rfl <|
    V_iload_n (tat ok_X9_mirrored_0 (i := 5) (q := 9) rfl rfl) 1 rfl rfl <|
    V_icmp_ge (tat ok_X9_mirrored_0 (i := 6) (q := 12) rfl rfl) rfl (fun c0 => V_pick [0, 1, 2, 3] rfl (V_X9_mirrored_65  hr (kx c0))) (fun c0 => V_X9_mirrored_12_1 (P := (fun x => (fun i x => V (zM x_X9_mirrored 2 0 0 t) 6 [(0, .long a0), (2, .int a2), (3, .int a3), (4, .long x), (6, .int i)] [] ly0 I L R0 0 0) (i + 1) x))  (fun _ e => e) (kb c0))) kk
def F_X9_mirrored (a0 : Int64) (a2 : Int32) (a3 : Int32) : Int64 :=
  (F_X9_mirrored_6 a0 a2 a3 0 0)
theorem V_X9_mirrored  {I : WI} {L : WL} {a0 : Int64} {a2 : Int32} {a3 : Int32}  {P : Int64 → Prop} {t : Tg} (hr : ∀ v, P v → t = (some (.long v), ly0, I, L, R0)) (kk : P (F_X9_mirrored a0 a2 a3)) : V (zM x_X9_mirrored 2 0 0 t) 0 [(0, .long a0), (2, .int a2), (3, .int a3)] [] ly0 I L R0 0 0 :=
  V_lconst (v := 0) (tat ok_X9_mirrored_0 (i := 0) (q := 1) rfl rfl) rfl <|
    V_lstore (lv' := [(4, .long 0), (0, .long a0), (2, .int a2), (3, .int a3)]) (tat ok_X9_mirrored_0 (i := 1) (q := 3) rfl rfl) (Nat.le_of_ble_eq_true rfl) rfl <|
    V_iconst (tat ok_X9_mirrored_0 (i := 2) (q := 4) rfl rfl) ic_0 <|
    V_istore (lv' := [(6, .int 0), (4, .long 0), (0, .long a0), (2, .int a2), (3, .int a3)]) (tat ok_X9_mirrored_0 (i := 3) (q := 6) rfl rfl) (Nat.le_of_ble_eq_true rfl) rfl <|
    V_pick [2, 3, 4, 1, 0] rfl (V_X9_mirrored_6 rfl hr (jx (P := P) kk rfl))
theorem ct_X9_mirrored  (I : WI) (L : WL) (a0 : Int64) (a2 : Int32) (a3 : Int32)  : Ct x_X9_mirrored 2 [.long a0, .int a2, .int a3] ly0 I L R0 0 0 (some (.long (F_X9_mirrored a0 a2 a3)), ly0, I, L, R0) :=
  Ct_of_V mo_X9_mirrored.1 (Nat.le_of_ble_eq_true rfl) (V_X9_mirrored (P := fun x => x = (F_X9_mirrored a0 a2 a3))  (fun _ e => by rw [e]) rfl)
def F_X9_quarter_50_2 (a0 : Int64) (a2 : Int32) (a3 : Int32) (a6 : Int32) (a7 : Int32) (s0 : Int64) (s1 : Int64) : Int64 :=
  (s1 ||| s0)
theorem V_X9_quarter_50_2  {I : WI} {L : WL} {a0 : Int64} {a2 : Int32} {a3 : Int32} {a6 : Int32} {a7 : Int32} {s0 : Int64} {s1 : Int64} {P : Int64 → Prop} {t : Tg} (hk : ∀ x : Int64, P x → V (zM x_X9_quarter 2 0 0 t) 15 [(0, .long a0), (2, .int a2), (3, .int a3), (4, .long x), (6, .int a6), (7, .int (a7 + 1))] [] ly0 I L R0 0 0) (kk : P (F_X9_quarter_50_2 a0 a2 a3 a6 a7 s0 s1)) : V (zM x_X9_quarter 2 0 0 t) 50 [(0, .long a0), (2, .int a2), (3, .int a3), (6, .int a6), (7, .int a7)] [.long s0, .long s1] ly0 I L R0 0 0 :=
  V_lor (tat ok_X9_quarter_0 (i := 28) (q := 51) rfl rfl) <|
    V_lstore (lv' := [(4, .long (s1 ||| s0)), (0, .long a0), (2, .int a2), (3, .int a3), (6, .int a6), (7, .int a7)]) (tat ok_X9_quarter_0 (i := 29) (q := 53) rfl rfl) (Nat.le_of_ble_eq_true rfl) rfl <|
    V_iinc (v := (a7 + 1)) (lv' := [(7, .int (a7 + 1)), (4, .long (s1 ||| s0)), (0, .long a0), (2, .int a2), (3, .int a3), (6, .int a6)]) (tat ok_X9_quarter_0 (i := 30) (q := 56) rfl rfl) 5 rfl (ia ic_1) (Nat.le_of_ble_eq_true rfl) rfl <|
    V_goto (tat ok_X9_quarter_0 (i := 31) (q := 59) rfl rfl) rfl <|
    V_pick [2, 3, 4, 1, 5, 0] rfl (hk (s1 ||| s0) (jx (P := P) kk rfl))
def F_X9_quarter_21_2 (a0 : Int64) (a2 : Int32) (a3 : Int32) (a6 : Int32) (a7 : Int32) (a4 : Int64) : Int64 :=
  (if (F_X9_isDark a0 a6 a7) = 1 then (F_X9_quarter_50_2 a0 a2 a3 a6 a7 (F_X9_bitOf a7 ((a2 - 1) - a6)) a4) else (F_X9_quarter_50_2 a0 a2 a3 a6 a7 0 a4))
theorem V_X9_quarter_21_2  {I : WI} {L : WL} {a0 : Int64} {a2 : Int32} {a3 : Int32} {a6 : Int32} {a7 : Int32} {a4 : Int64} {P : Int64 → Prop} {t : Tg} (hk : ∀ x : Int64, P x → V (zM x_X9_quarter 2 0 0 t) 15 [(0, .long a0), (2, .int a2), (3, .int a3), (4, .long x), (6, .int a6), (7, .int (a7 + 1))] [] ly0 I L R0 0 0) (kk : P (F_X9_quarter_21_2 a0 a2 a3 a6 a7 a4)) : V (zM x_X9_quarter 2 0 0 t) 21 [(0, .long a0), (2, .int a2), (3, .int a3), (4, .long a4), (6, .int a6), (7, .int a7)] [] ly0 I L R0 0 0 :=
  V_lload (tat ok_X9_quarter_0 (i := 12) (q := 23) rfl rfl) 3 rfl <|
    V_lload_n (tat ok_X9_quarter_0 (i := 13) (q := 24) rfl rfl) 0 rfl rfl <|
    V_iload (tat ok_X9_quarter_0 (i := 14) (q := 26) rfl rfl) 4 rfl <|
    V_iload (tat ok_X9_quarter_0 (i := 15) (q := 28) rfl rfl) 5 rfl <|
    V_cs3 (ct_X9_isDark I L a0 a6 a7 ) mo_X9_isDark (tat ok_X9_quarter_0 (i := 16) (q := 31) rfl rfl) ml_X9_210 ⟨(Nat.le_of_ble_eq_true rfl), (Nat.le_of_ble_eq_true rfl)⟩ ⟨(Nat.le_of_ble_eq_true rfl), (Nat.le_of_ble_eq_true rfl)⟩ (Nat.le_of_ble_eq_true rfl) <|
    V_iconst (tat ok_X9_quarter_0 (i := 17) (q := 32) rfl rfl) ic_1 <|
    V_icmp_ne (tat ok_X9_quarter_0 (i := 18) (q := 35) rfl rfl) rfl (fun c1 => V_lconst (v := 0) (tat ok_X9_quarter_0 (i := 27) (q := 50) rfl rfl) rfl <|
    V_pick [0, 1, 2, 4, 5] rfl (V_X9_quarter_50_2  hk (jx (P := P) kk (if_neg c1)))) (fun c1 => V_iload (tat ok_X9_quarter_0 (i := 19) (q := 37) rfl rfl) 5 rfl <|
    V_iload_n (tat ok_X9_quarter_0 (i := 20) (q := 38) rfl rfl) 1 rfl rfl <|
    V_iconst (tat ok_X9_quarter_0 (i := 21) (q := 39) rfl rfl) ic_1 <|
    V_isub (tat ok_X9_quarter_0 (i := 22) (q := 40) rfl rfl) <|
    V_iload (tat ok_X9_quarter_0 (i := 23) (q := 42) rfl rfl) 4 rfl <|
    V_isub (tat ok_X9_quarter_0 (i := 24) (q := 43) rfl rfl) <|
    V_cs2 (ct_X9_bitOf I L a7 ((a2 - 1) - a6) ) mo_X9_bitOf (tat ok_X9_quarter_0 (i := 25) (q := 46) rfl rfl) ml_X9_155 ⟨(Nat.le_of_ble_eq_true rfl), (Nat.le_of_ble_eq_true rfl)⟩ ⟨(Nat.le_of_ble_eq_true rfl), (Nat.le_of_ble_eq_true rfl)⟩ (Nat.le_of_ble_eq_true rfl) <|
    V_goto (tat ok_X9_quarter_0 (i := 26) (q := 49) rfl rfl) rfl <|
    V_pick [0, 1, 2, 4, 5] rfl (V_X9_quarter_50_2  hk (jx (P := P) kk (if_pos c1))))
def F_X9_quarter_59_1 (a0 : Int64) (a2 : Int32) (a3 : Int32) (a6 : Int32) (a4 : Int64) : Int64 :=
  a4
theorem V_X9_quarter_59_1  {I : WI} {L : WL} {a0 : Int64} {a2 : Int32} {a3 : Int32} {a6 : Int32} {a4 : Int64} {P : Int64 → Prop} {t : Tg} (hk : ∀ x : Int64, P x → V (zM x_X9_quarter 2 0 0 t) 6 [(0, .long a0), (2, .int a2), (3, .int a3), (4, .long x), (6, .int (a6 + 1))] [] ly0 I L R0 0 0) (kk : P (F_X9_quarter_59_1 a0 a2 a3 a6 a4)) : V (zM x_X9_quarter 2 0 0 t) 59 [(0, .long a0), (2, .int a2), (3, .int a3), (4, .long a4), (6, .int a6)] [] ly0 I L R0 0 0 :=
  V_iinc (v := (a6 + 1)) (lv' := [(6, .int (a6 + 1)), (0, .long a0), (2, .int a2), (3, .int a3), (4, .long a4)]) (tat ok_X9_quarter_0 (i := 32) (q := 62) rfl rfl) 4 rfl (ia ic_1) (Nat.le_of_ble_eq_true rfl) rfl <|
    V_goto (tat ok_X9_quarter_0 (i := 33) (q := 65) rfl rfl) rfl <|
    V_pick [1, 2, 3, 4, 0] rfl (hk a4 (jx (P := P) kk rfl))
def F_X9_quarter_15_1 (a0 : Int64) (a2 : Int32) (a3 : Int32) (a6 : Int32) (a4 : Int64) (a7 : Int32) : Int64 :=
  (fun q : Int32 × Int64 => (F_X9_quarter_59_1 a0 a2 a3 a6 (p2 q))) (fr0 (fun i x => (F_X9_quarter_21_2 a0 a2 a3 a6 i x)) a3 (fu a7 a3) a7 a4)
theorem V_X9_quarter_15_1  {I : WI} {L : WL} {a0 : Int64} {a2 : Int32} {a3 : Int32} {a6 : Int32} {a4 : Int64} {a7 : Int32} {P : Int64 → Prop} {t : Tg} (hb7 : bz a7 = a7) (hk : ∀ x : Int64, P x → V (zM x_X9_quarter 2 0 0 t) 6 [(0, .long a0), (2, .int a2), (3, .int a3), (4, .long x), (6, .int (a6 + 1))] [] ly0 I L R0 0 0) (kk : P (F_X9_quarter_15_1 a0 a2 a3 a6 a4 a7)) : V (zM x_X9_quarter 2 0 0 t) 15 [(0, .long a0), (2, .int a2), (3, .int a3), (4, .long a4), (6, .int a6), (7, .int a7)] [] ly0 I L R0 0 0 :=
  V_fr0 (fun i x => (F_X9_quarter_21_2 a0 a2 a3 a6 i x)) a3 (fun i x => V (zM x_X9_quarter 2 0 0 t) 15 [(0, .long a0), (2, .int a2), (3, .int a3), (4, .long x), (6, .int a6), (7, .int i)] [] ly0 I L R0 0 0) (fun i x => P ((F_X9_quarter_59_1 a0 a2 a3 a6 x))) (c := a7) (s := a4) (fun i x kx kb => V_iload (tat ok_X9_quarter_0 (i := 9) (q := 17) rfl rfl) 5 rfl <|
    V_iload_n (tat ok_X9_quarter_0 (i := 10) (q := 18) rfl rfl) 2 rfl rfl <|
    V_icmp_ge (tat ok_X9_quarter_0 (i := 11) (q := 21) rfl rfl) rfl (fun c0 => V_pick [0, 1, 2, 3, 4] rfl (V_X9_quarter_59_1  hk (kx c0))) (fun c0 => V_X9_quarter_21_2 (P := (fun x => (fun i x => V (zM x_X9_quarter 2 0 0 t) 15 [(0, .long a0), (2, .int a2), (3, .int a3), (4, .long x), (6, .int a6), (7, .int i)] [] ly0 I L R0 0 0) (i + 1) x))  (fun _ e => e) (kb c0))) kk
def F_X9_quarter_12_1 (a0 : Int64) (a2 : Int32) (a3 : Int32) (a6 : Int32) (a4 : Int64) : Int64 :=
  (F_X9_quarter_15_1 a0 a2 a3 a6 a4 0)
theorem V_X9_quarter_12_1  {I : WI} {L : WL} {a0 : Int64} {a2 : Int32} {a3 : Int32} {a6 : Int32} {a4 : Int64} {P : Int64 → Prop} {t : Tg} (hk : ∀ x : Int64, P x → V (zM x_X9_quarter 2 0 0 t) 6 [(0, .long a0), (2, .int a2), (3, .int a3), (4, .long x), (6, .int (a6 + 1))] [] ly0 I L R0 0 0) (kk : P (F_X9_quarter_12_1 a0 a2 a3 a6 a4)) : V (zM x_X9_quarter 2 0 0 t) 12 [(0, .long a0), (2, .int a2), (3, .int a3), (4, .long a4), (6, .int a6)] [] ly0 I L R0 0 0 :=
  V_iconst (tat ok_X9_quarter_0 (i := 7) (q := 13) rfl rfl) ic_0 <|
    V_istore (lv' := [(7, .int 0), (0, .long a0), (2, .int a2), (3, .int a3), (4, .long a4), (6, .int a6)]) (tat ok_X9_quarter_0 (i := 8) (q := 15) rfl rfl) (Nat.le_of_ble_eq_true rfl) rfl <|
    V_pick [1, 2, 3, 4, 5, 0] rfl (V_X9_quarter_15_1 rfl hk (jx (P := P) kk rfl))
def F_X9_quarter_65 (a0 : Int64) (a2 : Int32) (a3 : Int32) (a4 : Int64) : Int64 :=
  a4
theorem V_X9_quarter_65  {I : WI} {L : WL} {a0 : Int64} {a2 : Int32} {a3 : Int32} {a4 : Int64} {P : Int64 → Prop} {t : Tg} (hr : ∀ v, P v → t = (some (.long v), ly0, I, L, R0)) (kk : P (F_X9_quarter_65 a0 a2 a3 a4)) : V (zM x_X9_quarter 2 0 0 t) 65 [(0, .long a0), (2, .int a2), (3, .int a3), (4, .long a4)] [] ly0 I L R0 0 0 :=
  V_lload (tat ok_X9_quarter_0 (i := 34) (q := 67) rfl rfl) 3 rfl <|
    V_lret (tat ok_X9_quarter_0 (i := 35) (q := 68) rfl rfl) rfl (hr a4 (jx (P := P) kk rfl)) ⟨(Nat.le_of_ble_eq_true rfl), (Nat.le_of_ble_eq_true rfl)⟩
def F_X9_quarter_6 (a0 : Int64) (a2 : Int32) (a3 : Int32) (a4 : Int64) (a6 : Int32) : Int64 :=
  (fun q : Int32 × Int64 => (F_X9_quarter_65 a0 a2 a3 (p2 q))) (fr0 (fun i x => (F_X9_quarter_12_1 a0 a2 a3 i x)) a2 (fu a6 a2) a6 a4)
theorem V_X9_quarter_6  {I : WI} {L : WL} {a0 : Int64} {a2 : Int32} {a3 : Int32} {a4 : Int64} {a6 : Int32} {P : Int64 → Prop} {t : Tg} (hb6 : bz a6 = a6) (hr : ∀ v, P v → t = (some (.long v), ly0, I, L, R0)) (kk : P (F_X9_quarter_6 a0 a2 a3 a4 a6)) : V (zM x_X9_quarter 2 0 0 t) 6 [(0, .long a0), (2, .int a2), (3, .int a3), (4, .long a4), (6, .int a6)] [] ly0 I L R0 0 0 :=
  V_fr0 (fun i x => (F_X9_quarter_12_1 a0 a2 a3 i x)) a2 (fun i x => V (zM x_X9_quarter 2 0 0 t) 6 [(0, .long a0), (2, .int a2), (3, .int a3), (4, .long x), (6, .int i)] [] ly0 I L R0 0 0) (fun i x => P ((F_X9_quarter_65 a0 a2 a3 x))) (c := a6) (s := a4) (fun i x kx kb => V_iload (tat ok_X9_quarter_0 (i := 4) (q := 8) rfl rfl) 4 rfl <|
    V_iload_n (tat ok_X9_quarter_0 (i := 5) (q := 9) rfl rfl) 1 rfl rfl <|
    V_icmp_ge (tat ok_X9_quarter_0 (i := 6) (q := 12) rfl rfl) rfl (fun c0 => V_pick [0, 1, 2, 3] rfl (V_X9_quarter_65  hr (kx c0))) (fun c0 => V_X9_quarter_12_1 (P := (fun x => (fun i x => V (zM x_X9_quarter 2 0 0 t) 6 [(0, .long a0), (2, .int a2), (3, .int a3), (4, .long x), (6, .int i)] [] ly0 I L R0 0 0) (i + 1) x))  (fun _ e => e) (kb c0))) kk
def F_X9_quarter (a0 : Int64) (a2 : Int32) (a3 : Int32) : Int64 :=
  (F_X9_quarter_6 a0 a2 a3 0 0)
theorem V_X9_quarter  {I : WI} {L : WL} {a0 : Int64} {a2 : Int32} {a3 : Int32}  {P : Int64 → Prop} {t : Tg} (hr : ∀ v, P v → t = (some (.long v), ly0, I, L, R0)) (kk : P (F_X9_quarter a0 a2 a3)) : V (zM x_X9_quarter 2 0 0 t) 0 [(0, .long a0), (2, .int a2), (3, .int a3)] [] ly0 I L R0 0 0 :=
  V_lconst (v := 0) (tat ok_X9_quarter_0 (i := 0) (q := 1) rfl rfl) rfl <|
    V_lstore (lv' := [(4, .long 0), (0, .long a0), (2, .int a2), (3, .int a3)]) (tat ok_X9_quarter_0 (i := 1) (q := 3) rfl rfl) (Nat.le_of_ble_eq_true rfl) rfl <|
    V_iconst (tat ok_X9_quarter_0 (i := 2) (q := 4) rfl rfl) ic_0 <|
    V_istore (lv' := [(6, .int 0), (4, .long 0), (0, .long a0), (2, .int a2), (3, .int a3)]) (tat ok_X9_quarter_0 (i := 3) (q := 6) rfl rfl) (Nat.le_of_ble_eq_true rfl) rfl <|
    V_pick [2, 3, 4, 1, 0] rfl (V_X9_quarter_6 rfl hr (jx (P := P) kk rfl))
theorem ct_X9_quarter  (I : WI) (L : WL) (a0 : Int64) (a2 : Int32) (a3 : Int32)  : Ct x_X9_quarter 2 [.long a0, .int a2, .int a3] ly0 I L R0 0 0 (some (.long (F_X9_quarter a0 a2 a3)), ly0, I, L, R0) :=
  Ct_of_V mo_X9_quarter.1 (Nat.le_of_ble_eq_true rfl) (V_X9_quarter (P := fun x => x = (F_X9_quarter a0 a2 a3))  (fun _ e => by rw [e]) rfl)
def F_X9_rotated_54_1 (a0 : Int64) (a2 : Int32) (a3 : Int32) (a4 : Int32) (a7 : Int32) (s0 : Int64) : Int64 :=
  s0
theorem V_X9_rotated_54_1  {I : WI} {L : WL} {a0 : Int64} {a2 : Int32} {a3 : Int32} {a4 : Int32} {a7 : Int32} {s0 : Int64} {P : Int64 → Prop} {t : Tg} (hk : ∀ x : Int64, P x → V (zM x_X9_rotated 3 0 0 t) 21 [(0, .long a0), (2, .int a2), (3, .int a3), (4, .int a4), (5, .long x), (7, .int (a7 + 1))] [] ly0 I L R0 0 0) (kk : P (F_X9_rotated_54_1 a0 a2 a3 a4 a7 s0)) : V (zM x_X9_rotated 3 0 0 t) 54 [(0, .long a0), (2, .int a2), (3, .int a3), (4, .int a4), (7, .int a7)] [.long s0] ly0 I L R0 0 0 :=
  V_lstore (lv' := [(5, .long s0), (0, .long a0), (2, .int a2), (3, .int a3), (4, .int a4), (7, .int a7)]) (tat ok_X9_rotated_0 (i := 30) (q := 56) rfl rfl) (Nat.le_of_ble_eq_true rfl) rfl <|
    V_iinc (v := (a7 + 1)) (lv' := [(7, .int (a7 + 1)), (5, .long s0), (0, .long a0), (2, .int a2), (3, .int a3), (4, .int a4)]) (tat ok_X9_rotated_0 (i := 31) (q := 59) rfl rfl) 5 rfl (ia ic_1) (Nat.le_of_ble_eq_true rfl) rfl <|
    V_goto (tat ok_X9_rotated_0 (i := 32) (q := 62) rfl rfl) rfl <|
    V_pick [2, 3, 4, 5, 1, 0] rfl (hk s0 (jx (P := P) kk rfl))
def F_X9_rotated_30_1 (a0 : Int64) (a2 : Int32) (a3 : Int32) (a4 : Int32) (a7 : Int32) (a5 : Int64) : Int64 :=
  (if (a7 - a7 / 2 * 2) = 0 then (F_X9_rotated_54_1 a0 a2 a3 a4 a7 (F_X9_quarter a5 a2 a3)) else (F_X9_rotated_54_1 a0 a2 a3 a4 a7 (F_X9_quarter a5 a3 a2)))
theorem V_X9_rotated_30_1  {I : WI} {L : WL} {a0 : Int64} {a2 : Int32} {a3 : Int32} {a4 : Int32} {a7 : Int32} {a5 : Int64} {P : Int64 → Prop} {t : Tg} (hk : ∀ x : Int64, P x → V (zM x_X9_rotated 3 0 0 t) 21 [(0, .long a0), (2, .int a2), (3, .int a3), (4, .int a4), (5, .long x), (7, .int (a7 + 1))] [] ly0 I L R0 0 0) (kk : P (F_X9_rotated_30_1 a0 a2 a3 a4 a7 a5)) : V (zM x_X9_rotated 3 0 0 t) 30 [(0, .long a0), (2, .int a2), (3, .int a3), (4, .int a4), (5, .long a5), (7, .int a7)] [] ly0 I L R0 0 0 :=
  V_iload (tat ok_X9_rotated_0 (i := 17) (q := 32) rfl rfl) 5 rfl <|
    V_iconst (tat ok_X9_rotated_0 (i := 18) (q := 33) rfl rfl) ic_2 <|
    V_irem (tat ok_X9_rotated_0 (i := 19) (q := 34) rfl rfl) (by decide) <|
    V_if_ne (tat ok_X9_rotated_0 (i := 20) (q := 37) rfl rfl) rfl (fun c2 => V_lload (tat ok_X9_rotated_0 (i := 26) (q := 49) rfl rfl) 4 rfl <|
    V_iload_n (tat ok_X9_rotated_0 (i := 27) (q := 50) rfl rfl) 2 rfl rfl <|
    V_iload_n (tat ok_X9_rotated_0 (i := 28) (q := 51) rfl rfl) 1 rfl rfl <|
    V_cs3 (ct_X9_quarter I L a5 a3 a2 ) mo_X9_quarter (tat ok_X9_rotated_0 (i := 29) (q := 54) rfl rfl) ml_X9_307 ⟨(Nat.le_of_ble_eq_true rfl), (Nat.le_of_ble_eq_true rfl)⟩ ⟨(Nat.le_of_ble_eq_true rfl), (Nat.le_of_ble_eq_true rfl)⟩ (Nat.le_of_ble_eq_true rfl) <|
    V_pick [0, 1, 2, 3, 5] rfl (V_X9_rotated_54_1  hk (jx (P := P) kk (if_neg c2)))) (fun c2 => V_lload (tat ok_X9_rotated_0 (i := 21) (q := 39) rfl rfl) 4 rfl <|
    V_iload_n (tat ok_X9_rotated_0 (i := 22) (q := 40) rfl rfl) 1 rfl rfl <|
    V_iload_n (tat ok_X9_rotated_0 (i := 23) (q := 41) rfl rfl) 2 rfl rfl <|
    V_cs3 (ct_X9_quarter I L a5 a2 a3 ) mo_X9_quarter (tat ok_X9_rotated_0 (i := 24) (q := 44) rfl rfl) ml_X9_307 ⟨(Nat.le_of_ble_eq_true rfl), (Nat.le_of_ble_eq_true rfl)⟩ ⟨(Nat.le_of_ble_eq_true rfl), (Nat.le_of_ble_eq_true rfl)⟩ (Nat.le_of_ble_eq_true rfl) <|
    V_goto (tat ok_X9_rotated_0 (i := 25) (q := 47) rfl rfl) rfl <|
    V_pick [0, 1, 2, 3, 5] rfl (V_X9_rotated_54_1  hk (jx (P := P) kk (if_pos c2))))
def F_X9_rotated_62 (a0 : Int64) (a2 : Int32) (a3 : Int32) (a4 : Int32) (a5 : Int64) : Int64 :=
  a5
theorem V_X9_rotated_62  {I : WI} {L : WL} {a0 : Int64} {a2 : Int32} {a3 : Int32} {a4 : Int32} {a5 : Int64} {P : Int64 → Prop} {t : Tg} (hr : ∀ v, P v → t = (some (.long v), ly0, I, L, R0)) (kk : P (F_X9_rotated_62 a0 a2 a3 a4 a5)) : V (zM x_X9_rotated 3 0 0 t) 62 [(0, .long a0), (2, .int a2), (3, .int a3), (4, .int a4), (5, .long a5)] [] ly0 I L R0 0 0 :=
  V_lload (tat ok_X9_rotated_0 (i := 33) (q := 64) rfl rfl) 4 rfl <|
    V_lret (tat ok_X9_rotated_0 (i := 34) (q := 65) rfl rfl) rfl (hr a5 (jx (P := P) kk rfl)) ⟨(Nat.le_of_ble_eq_true rfl), (Nat.le_of_ble_eq_true rfl)⟩
def F_X9_rotated_21 (a0 : Int64) (a2 : Int32) (a3 : Int32) (a4 : Int32) (a5 : Int64) (a7 : Int32) : Int64 :=
  (fun q : Int32 × Int64 => (F_X9_rotated_62 a0 a2 a3 a4 (p2 q))) (fr0 (fun i x => (F_X9_rotated_30_1 a0 a2 a3 a4 i x)) (a4 - a4 / 4 * 4) (fu a7 (a4 - a4 / 4 * 4)) a7 a5)
theorem V_X9_rotated_21  {I : WI} {L : WL} {a0 : Int64} {a2 : Int32} {a3 : Int32} {a4 : Int32} {a5 : Int64} {a7 : Int32} {P : Int64 → Prop} {t : Tg} (hb7 : bz a7 = a7) (hr : ∀ v, P v → t = (some (.long v), ly0, I, L, R0)) (kk : P (F_X9_rotated_21 a0 a2 a3 a4 a5 a7)) : V (zM x_X9_rotated 3 0 0 t) 21 [(0, .long a0), (2, .int a2), (3, .int a3), (4, .int a4), (5, .long a5), (7, .int a7)] [] ly0 I L R0 0 0 :=
  V_fr0 (fun i x => (F_X9_rotated_30_1 a0 a2 a3 a4 i x)) (a4 - a4 / 4 * 4) (fun i x => V (zM x_X9_rotated 3 0 0 t) 21 [(0, .long a0), (2, .int a2), (3, .int a3), (4, .int a4), (5, .long x), (7, .int i)] [] ly0 I L R0 0 0) (fun i x => P ((F_X9_rotated_62 a0 a2 a3 a4 x))) (c := a7) (s := a5) (fun i x kx kb => V_iload (tat ok_X9_rotated_0 (i := 12) (q := 23) rfl rfl) 5 rfl <|
    V_iload (tat ok_X9_rotated_0 (i := 13) (q := 25) rfl rfl) 3 rfl <|
    V_iconst (tat ok_X9_rotated_0 (i := 14) (q := 26) rfl rfl) ic_4 <|
    V_irem (tat ok_X9_rotated_0 (i := 15) (q := 27) rfl rfl) (by decide) <|
    V_icmp_ge (tat ok_X9_rotated_0 (i := 16) (q := 30) rfl rfl) rfl (fun c0 => V_pick [0, 1, 2, 3, 4] rfl (V_X9_rotated_62  hr (kx c0))) (fun c0 => V_X9_rotated_30_1 (P := (fun x => (fun i x => V (zM x_X9_rotated 3 0 0 t) 21 [(0, .long a0), (2, .int a2), (3, .int a3), (4, .int a4), (5, .long x), (7, .int i)] [] ly0 I L R0 0 0) (i + 1) x))  (fun _ e => e) (kb c0))) kk
def F_X9_rotated_16 (a0 : Int64) (a2 : Int32) (a3 : Int32) (a4 : Int32) (s0 : Int64) : Int64 :=
  (F_X9_rotated_21 a0 a2 a3 a4 s0 0)
theorem V_X9_rotated_16  {I : WI} {L : WL} {a0 : Int64} {a2 : Int32} {a3 : Int32} {a4 : Int32} {s0 : Int64} {P : Int64 → Prop} {t : Tg} (hr : ∀ v, P v → t = (some (.long v), ly0, I, L, R0)) (kk : P (F_X9_rotated_16 a0 a2 a3 a4 s0)) : V (zM x_X9_rotated 3 0 0 t) 16 [(0, .long a0), (2, .int a2), (3, .int a3), (4, .int a4)] [.long s0] ly0 I L R0 0 0 :=
  V_lstore (lv' := [(5, .long s0), (0, .long a0), (2, .int a2), (3, .int a3), (4, .int a4)]) (tat ok_X9_rotated_0 (i := 9) (q := 18) rfl rfl) (Nat.le_of_ble_eq_true rfl) rfl <|
    V_iconst (tat ok_X9_rotated_0 (i := 10) (q := 19) rfl rfl) ic_0 <|
    V_istore (lv' := [(7, .int 0), (5, .long s0), (0, .long a0), (2, .int a2), (3, .int a3), (4, .int a4)]) (tat ok_X9_rotated_0 (i := 11) (q := 21) rfl rfl) (Nat.le_of_ble_eq_true rfl) rfl <|
    V_pick [2, 3, 4, 5, 1, 0] rfl (V_X9_rotated_21 rfl hr (jx (P := P) kk rfl))
def F_X9_rotated (a0 : Int64) (a2 : Int32) (a3 : Int32) (a4 : Int32) : Int64 :=
  (if a4 ≤ 3 then (F_X9_rotated_16 a0 a2 a3 a4 a0) else (F_X9_rotated_16 a0 a2 a3 a4 (F_X9_mirrored a0 a2 a3)))
theorem V_X9_rotated  {I : WI} {L : WL} {a0 : Int64} {a2 : Int32} {a3 : Int32} {a4 : Int32}  {P : Int64 → Prop} {t : Tg} (hr : ∀ v, P v → t = (some (.long v), ly0, I, L, R0)) (kk : P (F_X9_rotated a0 a2 a3 a4)) : V (zM x_X9_rotated 3 0 0 t) 0 [(0, .long a0), (2, .int a2), (3, .int a3), (4, .int a4)] [] ly0 I L R0 0 0 :=
  V_iload (tat ok_X9_rotated_0 (i := 0) (q := 2) rfl rfl) 3 rfl <|
    V_iconst (tat ok_X9_rotated_0 (i := 1) (q := 3) rfl rfl) ic_3 <|
    V_icmp_le (tat ok_X9_rotated_0 (i := 2) (q := 6) rfl rfl) rfl (fun c1 => V_lload_n (tat ok_X9_rotated_0 (i := 8) (q := 16) rfl rfl) 0 rfl rfl <|
    V_X9_rotated_16  hr (jx (P := P) kk (if_pos c1))) (fun c1 => V_lload_n (tat ok_X9_rotated_0 (i := 3) (q := 7) rfl rfl) 0 rfl rfl <|
    V_iload_n (tat ok_X9_rotated_0 (i := 4) (q := 8) rfl rfl) 1 rfl rfl <|
    V_iload_n (tat ok_X9_rotated_0 (i := 5) (q := 9) rfl rfl) 2 rfl rfl <|
    V_cs3 (ct_X9_mirrored I L a0 a2 a3 ) mo_X9_mirrored (tat ok_X9_rotated_0 (i := 6) (q := 12) rfl rfl) ml_X9_304 ⟨(Nat.le_of_ble_eq_true rfl), (Nat.le_of_ble_eq_true rfl)⟩ ⟨(Nat.le_of_ble_eq_true rfl), (Nat.le_of_ble_eq_true rfl)⟩ (Nat.le_of_ble_eq_true rfl) <|
    V_goto (tat ok_X9_rotated_0 (i := 7) (q := 15) rfl rfl) rfl <|
    V_X9_rotated_16  hr (jx (P := P) kk (if_neg c1)))
theorem ct_X9_rotated  (I : WI) (L : WL) (a0 : Int64) (a2 : Int32) (a3 : Int32) (a4 : Int32)  : Ct x_X9_rotated 3 [.long a0, .int a2, .int a3, .int a4] ly0 I L R0 0 0 (some (.long (F_X9_rotated a0 a2 a3 a4)), ly0, I, L, R0) :=
  Ct_of_V mo_X9_rotated.1 (Nat.le_of_ble_eq_true rfl) (V_X9_rotated (P := fun x => x = (F_X9_rotated a0 a2 a3 a4))  (fun _ e => by rw [e]) rfl)
def F_X9_endsPattern (I : WI) : WI :=
  (u2 (u2 I 33 4 0) 33 5 0)
theorem V_X9_endsPattern  {I : WI} {L : WL}   {P : WI → Prop} {t : Tg} (hr : ∀ v, P v → t = (none, ly0, v, L, R0)) (kk : P (F_X9_endsPattern I)) : V (zM x_X9_endsPattern 1 0 0 t) 0 [(0, .ref 33)] [] ly0 I L R0 0 0 :=
  V_aload_n (tat ok_X9_endsPattern_0 (i := 0) (q := 1) rfl rfl) 0 rfl rfl <|
    V_iconst (tat ok_X9_endsPattern_0 (i := 1) (q := 2) rfl rfl) ic_0 <|
    V_putZ (tat ok_X9_endsPattern_0 (i := 2) (q := 5) rfl rfl) fk_X9_86 rfl rfl rfl <|
    V_aload_n (tat ok_X9_endsPattern_0 (i := 3) (q := 6) rfl rfl) 0 rfl rfl <|
    V_iconst (tat ok_X9_endsPattern_0 (i := 4) (q := 7) rfl rfl) ic_0 <|
    V_putI (tat ok_X9_endsPattern_0 (i := 5) (q := 10) rfl rfl) fk_X9_89 rfl rfl <|
    V_vret (tat ok_X9_endsPattern_0 (i := 6) (q := 11) rfl rfl) rfl (hr (u2 (u2 I 33 4 0) 33 5 0) (jx (P := P) kk rfl)) ⟨(Nat.le_of_ble_eq_true rfl), (Nat.le_of_ble_eq_true rfl)⟩
theorem ct_X9_endsPattern  (I : WI) (L : WL)  : Ct x_X9_endsPattern 1 [.ref 33] ly0 I L R0 0 0 (none, ly0, (F_X9_endsPattern I), L, R0) :=
  Ct_of_V mo_X9_endsPattern.1 (Nat.le_of_ble_eq_true rfl) (V_X9_endsPattern (P := fun x => x = (F_X9_endsPattern I))  (fun _ e => by rw [e]) rfl)
def F_X9_rotate_97 (I : WI) (L : WL) (a1 : Int32) (s0 : Int32) : (Int32 × WI × WL) :=
  (((u2 (u2 I 33 1 s0) 33 5 0) 33 0), (u2 (u2 I 33 1 s0) 33 5 0), L)
theorem V_X9_rotate_97  {I : WI} {L : WL} {a1 : Int32} {s0 : Int32} {P : (Int32 × WI × WL) → Prop} {t : Tg} (hr : ∀ v, P v → t = (some (.int (p1 v)), ly0, (p1 (p2 v)), (p2 (p2 v)), R0)) (kk : P (F_X9_rotate_97 I L a1 s0)) : V (zM x_X9_rotate 4 0 0 t) 97 [(0, .ref 33), (1, .int a1)] [.int s0, .ref 33] ly0 I L R0 0 0 :=
  V_putI (tat ok_X9_rotate_1 (i := 13) (q := 100) rfl rfl) fk_X9_77 rfl rfl <|
    V_aload_n (tat ok_X9_rotate_1 (i := 14) (q := 101) rfl rfl) 0 rfl rfl <|
    V_iconst (tat ok_X9_rotate_1 (i := 15) (q := 102) rfl rfl) ic_0 <|
    V_putI (tat ok_X9_rotate_1 (i := 16) (q := 105) rfl rfl) fk_X9_89 rfl rfl <|
    V_aload_n (tat ok_X9_rotate_1 (i := 17) (q := 106) rfl rfl) 0 rfl rfl <|
    V_getI (tat ok_X9_rotate_1 (i := 18) (q := 109) rfl rfl) fk_X9_74 rfl <|
    V_iret (tat ok_X9_rotate_1 (i := 19) (q := 110) rfl rfl) _ rfl (nar_int _) (hr (((u2 (u2 I 33 1 s0) 33 5 0) 33 0), (u2 (u2 I 33 1 s0) 33 5 0), L) (jx (P := P) kk rfl)) ⟨(Nat.le_of_ble_eq_true rfl), (Nat.le_of_ble_eq_true rfl)⟩
def F_X9_rotate_78 (I : WI) (L : WL) (a1 : Int32) (a2 : Int32) (s0 : Int32) : (Int32 × WI × WL) :=
  (if (a1 - a1 / 2 * 2) = 1 then (F_X9_rotate_97 (u2 I 33 0 s0) L a1 a2) else (F_X9_rotate_97 (u2 I 33 0 s0) L a1 ((u2 I 33 0 s0) 33 1)))
theorem V_X9_rotate_78  {I : WI} {L : WL} {a1 : Int32} {a2 : Int32} {s0 : Int32} {P : (Int32 × WI × WL) → Prop} {t : Tg} (hr : ∀ v, P v → t = (some (.int (p1 v)), ly0, (p1 (p2 v)), (p2 (p2 v)), R0)) (kk : P (F_X9_rotate_78 I L a1 a2 s0)) : V (zM x_X9_rotate 4 0 0 t) 78 [(0, .ref 33), (1, .int a1), (2, .int a2)] [.int s0, .ref 33] ly0 I L R0 0 0 :=
  V_putI (tat ok_X9_rotate_1 (i := 2) (q := 81) rfl rfl) fk_X9_74 rfl rfl <|
    V_aload_n (tat ok_X9_rotate_1 (i := 3) (q := 82) rfl rfl) 0 rfl rfl <|
    V_iload_n (tat ok_X9_rotate_1 (i := 4) (q := 83) rfl rfl) 1 rfl rfl <|
    V_iconst (tat ok_X9_rotate_1 (i := 5) (q := 84) rfl rfl) ic_2 <|
    V_irem (tat ok_X9_rotate_1 (i := 6) (q := 85) rfl rfl) (by decide) <|
    V_iconst (tat ok_X9_rotate_1 (i := 7) (q := 86) rfl rfl) ic_1 <|
    V_icmp_ne (tat ok_X9_rotate_1 (i := 8) (q := 89) rfl rfl) rfl (fun c3 => V_aload_n (tat ok_X9_rotate_1 (i := 11) (q := 94) rfl rfl) 0 rfl rfl <|
    V_getI (tat ok_X9_rotate_1 (i := 12) (q := 97) rfl rfl) fk_X9_77 rfl <|
    V_pick [0, 1] rfl (V_X9_rotate_97  hr (jx (P := P) kk (if_neg c3)))) (fun c3 => V_iload_n (tat ok_X9_rotate_1 (i := 9) (q := 90) rfl rfl) 2 rfl rfl <|
    V_goto (tat ok_X9_rotate_1 (i := 10) (q := 93) rfl rfl) rfl <|
    V_pick [0, 1] rfl (V_X9_rotate_97  hr (jx (P := P) kk (if_pos c3))))
def F_X9_rotate (I : WI) (L : WL) (a1 : Int32) : (Int32 × WI × WL) :=
  (if (F_X9_in (Int32.toInt64 a1) 0 7) = 0 then ((-1), I, L) else (if (a1 - a1 / 2 * 2) = 1 then (F_X9_rotate_78 I (u2 (u2 L 33 2 (F_X9_rotated (L 33 2) (I 33 0) (I 33 1) a1)) 33 3 (F_X9_rotated ((u2 L 33 2 (F_X9_rotated (L 33 2) (I 33 0) (I 33 1) a1)) 33 3) (I 33 0) (I 33 1) a1)) a1 (I 33 0) (I 33 1)) else (F_X9_rotate_78 I (u2 (u2 L 33 2 (F_X9_rotated (L 33 2) (I 33 0) (I 33 1) a1)) 33 3 (F_X9_rotated ((u2 L 33 2 (F_X9_rotated (L 33 2) (I 33 0) (I 33 1) a1)) 33 3) (I 33 0) (I 33 1) a1)) a1 (I 33 0) (I 33 0))))
theorem V_X9_rotate  {I : WI} {L : WL} {a1 : Int32}  {P : (Int32 × WI × WL) → Prop} {t : Tg} (hr : ∀ v, P v → t = (some (.int (p1 v)), ly0, (p1 (p2 v)), (p2 (p2 v)), R0)) (kk : P (F_X9_rotate I L a1)) : V (zM x_X9_rotate 4 0 0 t) 0 [(0, .ref 33), (1, .int a1)] [] ly0 I L R0 0 0 :=
  V_iload_n (tat ok_X9_rotate_0 (i := 0) (q := 1) rfl rfl) 1 rfl rfl <|
    V_i2l (tat ok_X9_rotate_0 (i := 1) (q := 2) rfl rfl) <|
    V_lconst (v := 0) (tat ok_X9_rotate_0 (i := 2) (q := 3) rfl rfl) rfl <|
    V_ldc2 (tat ok_X9_rotate_0 (i := 3) (q := 6) rfl rfl) (gw_in kl_X9_168 rfl) <|
    V_cs3 (ct_X9_in I L (Int32.toInt64 a1) 0 7 ) mo_X9_in (tat ok_X9_rotate_0 (i := 4) (q := 9) rfl rfl) ml_X9_97 ⟨(Nat.le_of_ble_eq_true rfl), (Nat.le_of_ble_eq_true rfl)⟩ ⟨(Nat.le_of_ble_eq_true rfl), (Nat.le_of_ble_eq_true rfl)⟩ (Nat.le_of_ble_eq_true rfl) <|
    V_if_ne (tat ok_X9_rotate_0 (i := 5) (q := 12) rfl rfl) rfl (fun c1 => V_aload_n (tat ok_X9_rotate_0 (i := 8) (q := 15) rfl rfl) 0 rfl rfl <|
    V_aload_n (tat ok_X9_rotate_0 (i := 9) (q := 16) rfl rfl) 0 rfl rfl <|
    V_getL (tat ok_X9_rotate_0 (i := 10) (q := 19) rfl rfl) fk_X9_80 rfl <|
    V_aload_n (tat ok_X9_rotate_0 (i := 11) (q := 20) rfl rfl) 0 rfl rfl <|
    V_getI (tat ok_X9_rotate_0 (i := 12) (q := 23) rfl rfl) fk_X9_74 rfl <|
    V_aload_n (tat ok_X9_rotate_0 (i := 13) (q := 24) rfl rfl) 0 rfl rfl <|
    V_getI (tat ok_X9_rotate_0 (i := 14) (q := 27) rfl rfl) fk_X9_77 rfl <|
    V_iload_n (tat ok_X9_rotate_0 (i := 15) (q := 28) rfl rfl) 1 rfl rfl <|
    V_cs4 (ct_X9_rotated I L (L 33 2) (I 33 0) (I 33 1) a1 ) mo_X9_rotated (tat ok_X9_rotate_0 (i := 16) (q := 31) rfl rfl) ml_X9_310 ⟨(Nat.le_of_ble_eq_true rfl), (Nat.le_of_ble_eq_true rfl)⟩ ⟨(Nat.le_of_ble_eq_true rfl), (Nat.le_of_ble_eq_true rfl)⟩ (Nat.le_of_ble_eq_true rfl) <|
    V_putL (tat ok_X9_rotate_0 (i := 17) (q := 34) rfl rfl) fk_X9_80 rfl rfl <|
    V_aload_n (tat ok_X9_rotate_0 (i := 18) (q := 35) rfl rfl) 0 rfl rfl <|
    V_aload_n (tat ok_X9_rotate_0 (i := 19) (q := 36) rfl rfl) 0 rfl rfl <|
    V_getL (tat ok_X9_rotate_0 (i := 20) (q := 39) rfl rfl) fk_X9_83 rfl <|
    V_aload_n (tat ok_X9_rotate_0 (i := 21) (q := 40) rfl rfl) 0 rfl rfl <|
    V_getI (tat ok_X9_rotate_0 (i := 22) (q := 43) rfl rfl) fk_X9_74 rfl <|
    V_aload_n (tat ok_X9_rotate_0 (i := 23) (q := 44) rfl rfl) 0 rfl rfl <|
    V_getI (tat ok_X9_rotate_0 (i := 24) (q := 47) rfl rfl) fk_X9_77 rfl <|
    V_iload_n (tat ok_X9_rotate_0 (i := 25) (q := 48) rfl rfl) 1 rfl rfl <|
    V_cs4 (ct_X9_rotated I (u2 L 33 2 (F_X9_rotated (L 33 2) (I 33 0) (I 33 1) a1)) ((u2 L 33 2 (F_X9_rotated (L 33 2) (I 33 0) (I 33 1) a1)) 33 3) (I 33 0) (I 33 1) a1 ) mo_X9_rotated (tat ok_X9_rotate_0 (i := 26) (q := 51) rfl rfl) ml_X9_310 ⟨(Nat.le_of_ble_eq_true rfl), (Nat.le_of_ble_eq_true rfl)⟩ ⟨(Nat.le_of_ble_eq_true rfl), (Nat.le_of_ble_eq_true rfl)⟩ (Nat.le_of_ble_eq_true rfl) <|
    V_putL (tat ok_X9_rotate_0 (i := 27) (q := 54) rfl rfl) fk_X9_83 rfl rfl <|
    V_aload_n (tat ok_X9_rotate_0 (i := 28) (q := 55) rfl rfl) 0 rfl rfl <|
    V_getI (tat ok_X9_rotate_0 (i := 29) (q := 58) rfl rfl) fk_X9_74 rfl <|
    V_istore_n (lv' := [(2, .int (I 33 0)), (0, .ref 33), (1, .int a1)]) (tat ok_X9_rotate_0 (i := 30) (q := 59) rfl rfl) rfl (Nat.le_of_ble_eq_true rfl) rfl <|
    V_aload_n (tat ok_X9_rotate_0 (i := 31) (q := 60) rfl rfl) 1 rfl rfl <|
    V_iload_n (tat ok_X9_rotate_0 (i := 32) (q := 61) rfl rfl) 2 rfl rfl <|
    V_iconst (tat ok_X9_rotate_0 (i := 33) (q := 62) rfl rfl) ic_2 <|
    V_irem (tat ok_X9_rotate_0 (i := 34) (q := 63) rfl rfl) (by decide) <|
    V_iconst (tat ok_X9_rotate_0 (i := 35) (q := 64) rfl rfl) ic_1 <|
    V_icmp_ne (tat ok_X9_rotate_0 (i := 36) (q := 67) rfl rfl) rfl (fun c2 => V_aload_n (tat ok_X9_rotate_1 (i := 0) (q := 75) rfl rfl) 1 rfl rfl <|
    V_getI (tat ok_X9_rotate_1 (i := 1) (q := 78) rfl rfl) fk_X9_74 rfl <|
    V_pick [1, 2, 0] rfl (V_X9_rotate_78  hr (jx (P := P) kk (Eq.trans (if_neg c1) (if_neg c2))))) (fun c2 => V_aload_n (tat ok_X9_rotate_0 (i := 37) (q := 68) rfl rfl) 1 rfl rfl <|
    V_getI (tat ok_X9_rotate_0 (i := 38) (q := 71) rfl rfl) fk_X9_77 rfl <|
    V_goto (tat ok_X9_rotate_0 (i := 39) (q := 74) rfl rfl) rfl <|
    V_pick [1, 2, 0] rfl (V_X9_rotate_78  hr (jx (P := P) kk (Eq.trans (if_neg c1) (if_pos c2)))))) (fun c1 => V_iconst (tat ok_X9_rotate_0 (i := 6) (q := 13) rfl rfl) ic_m1 <|
    V_iret (tat ok_X9_rotate_0 (i := 7) (q := 14) rfl rfl) _ rfl (nar_int _) (hr ((-1), I, L) (jx (P := P) kk (if_pos c1))) ⟨(Nat.le_of_ble_eq_true rfl), (Nat.le_of_ble_eq_true rfl)⟩)
theorem ct_X9_rotate  (I : WI) (L : WL) (a1 : Int32)  : Ct x_X9_rotate 4 [.ref 33, .int a1] ly0 I L R0 0 0 (some (.int (p1 (F_X9_rotate I L a1))), ly0, (p1 (p2 (F_X9_rotate I L a1))), (p2 (p2 (F_X9_rotate I L a1))), R0) :=
  Ct_of_V mo_X9_rotate.1 (Nat.le_of_ble_eq_true rfl) (V_X9_rotate (P := fun x => x = (F_X9_rotate I L a1))  (fun _ e => by rw [e]) rfl)
def F_X9_cut_65 (I : WI) (L : WL) (a1 : Int32) (a2 : Int32) (a3 : Int32) (a4 : Int32) : (Int32 × WI × WL) :=
  ((-1), I, L)
theorem V_X9_cut_65  {I : WI} {L : WL} {a1 : Int32} {a2 : Int32} {a3 : Int32} {a4 : Int32}  {P : (Int32 × WI × WL) → Prop} {t : Tg} (hr : ∀ v, P v → t = (some (.int (p1 v)), ly0, (p1 (p2 v)), (p2 (p2 v)), R0)) (kk : P (F_X9_cut_65 I L a1 a2 a3 a4)) : V (zM x_X9_cut 2 0 0 t) 65 [(0, .ref 33), (1, .int a1), (2, .int a2), (3, .int a3), (4, .int a4)] [] ly0 I L R0 0 0 :=
  V_iconst (tat ok_X9_cut_1 (i := 0) (q := 66) rfl rfl) ic_m1 <|
    V_iret (tat ok_X9_cut_1 (i := 1) (q := 67) rfl rfl) _ rfl (nar_int _) (hr ((-1), I, L) (jx (P := P) kk rfl)) ⟨(Nat.le_of_ble_eq_true rfl), (Nat.le_of_ble_eq_true rfl)⟩
def F_X9_cut_121_2 (I : WI) (L : WL) (a1 : Int32) (a2 : Int32) (a3 : Int32) (a4 : Int32) (a7 : Int32) (a8 : Int32) (s0 : Int64) (s1 : Int64) : Int64 :=
  (s1 ||| s0)
theorem V_X9_cut_121_2  {I : WI} {L : WL} {a1 : Int32} {a2 : Int32} {a3 : Int32} {a4 : Int32} {a7 : Int32} {a8 : Int32} {s0 : Int64} {s1 : Int64} {P : Int64 → Prop} {t : Tg} (hk : ∀ x : Int64, P x → V (zM x_X9_cut 2 0 0 t) 82 [(0, .ref 33), (1, .int a1), (2, .int a2), (3, .int a3), (4, .int a4), (5, .long x), (7, .int a7), (8, .int (a8 + 1))] [] ly0 I L R0 0 0) (kk : P (F_X9_cut_121_2 I L a1 a2 a3 a4 a7 a8 s0 s1)) : V (zM x_X9_cut 2 0 0 t) 121 [(0, .ref 33), (1, .int a1), (2, .int a2), (3, .int a3), (4, .int a4), (7, .int a7), (8, .int a8)] [.long s0, .long s1] ly0 I L R0 0 0 :=
  V_lor (tat ok_X9_cut_1 (i := 31) (q := 122) rfl rfl) <|
    V_lstore (lv' := [(5, .long (s1 ||| s0)), (0, .ref 33), (1, .int a1), (2, .int a2), (3, .int a3), (4, .int a4), (7, .int a7), (8, .int a8)]) (tat ok_X9_cut_1 (i := 32) (q := 124) rfl rfl) (Nat.le_of_ble_eq_true rfl) rfl <|
    V_iinc (v := (a8 + 1)) (lv' := [(8, .int (a8 + 1)), (5, .long (s1 ||| s0)), (0, .ref 33), (1, .int a1), (2, .int a2), (3, .int a3), (4, .int a4), (7, .int a7)]) (tat ok_X9_cut_1 (i := 33) (q := 127) rfl rfl) 7 rfl (ia ic_1) (Nat.le_of_ble_eq_true rfl) rfl <|
    V_goto (tat ok_X9_cut_1 (i := 34) (q := 130) rfl rfl) rfl <|
    V_pick [2, 3, 4, 5, 6, 1, 7, 0] rfl (hk (s1 ||| s0) (jx (P := P) kk rfl))
def F_X9_cut_89_2 (I : WI) (L : WL) (a1 : Int32) (a2 : Int32) (a3 : Int32) (a4 : Int32) (a7 : Int32) (a8 : Int32) (a5 : Int64) : Int64 :=
  (if (F_X9_isDark (L 33 2) (a1 + a7) (a3 + a8)) = 1 then (F_X9_cut_121_2 I L a1 a2 a3 a4 a7 a8 (F_X9_bitOf a7 a8) a5) else (F_X9_cut_121_2 I L a1 a2 a3 a4 a7 a8 0 a5))
theorem V_X9_cut_89_2  {I : WI} {L : WL} {a1 : Int32} {a2 : Int32} {a3 : Int32} {a4 : Int32} {a7 : Int32} {a8 : Int32} {a5 : Int64} {P : Int64 → Prop} {t : Tg} (hk : ∀ x : Int64, P x → V (zM x_X9_cut 2 0 0 t) 82 [(0, .ref 33), (1, .int a1), (2, .int a2), (3, .int a3), (4, .int a4), (5, .long x), (7, .int a7), (8, .int (a8 + 1))] [] ly0 I L R0 0 0) (kk : P (F_X9_cut_89_2 I L a1 a2 a3 a4 a7 a8 a5)) : V (zM x_X9_cut 2 0 0 t) 89 [(0, .ref 33), (1, .int a1), (2, .int a2), (3, .int a3), (4, .int a4), (5, .long a5), (7, .int a7), (8, .int a8)] [] ly0 I L R0 0 0 :=
  V_lload (tat ok_X9_cut_1 (i := 14) (q := 91) rfl rfl) 5 rfl <|
    V_aload_n (tat ok_X9_cut_1 (i := 15) (q := 92) rfl rfl) 0 rfl rfl <|
    V_getL (tat ok_X9_cut_1 (i := 16) (q := 95) rfl rfl) fk_X9_80 rfl <|
    V_iload_n (tat ok_X9_cut_1 (i := 17) (q := 96) rfl rfl) 1 rfl rfl <|
    V_iload (tat ok_X9_cut_1 (i := 18) (q := 98) rfl rfl) 6 rfl <|
    V_iadd (tat ok_X9_cut_1 (i := 19) (q := 99) rfl rfl) <|
    V_iload_n (tat ok_X9_cut_1 (i := 20) (q := 100) rfl rfl) 3 rfl rfl <|
    V_iload (tat ok_X9_cut_1 (i := 21) (q := 102) rfl rfl) 7 rfl <|
    V_iadd (tat ok_X9_cut_1 (i := 22) (q := 103) rfl rfl) <|
    V_cs3 (ct_X9_isDark I L (L 33 2) (a1 + a7) (a3 + a8) ) mo_X9_isDark (tat ok_X9_cut_1 (i := 23) (q := 106) rfl rfl) ml_X9_210 ⟨(Nat.le_of_ble_eq_true rfl), (Nat.le_of_ble_eq_true rfl)⟩ ⟨(Nat.le_of_ble_eq_true rfl), (Nat.le_of_ble_eq_true rfl)⟩ (Nat.le_of_ble_eq_true rfl) <|
    V_iconst (tat ok_X9_cut_1 (i := 24) (q := 107) rfl rfl) ic_1 <|
    V_icmp_ne (tat ok_X9_cut_1 (i := 25) (q := 110) rfl rfl) rfl (fun c5 => V_lconst (v := 0) (tat ok_X9_cut_1 (i := 30) (q := 121) rfl rfl) rfl <|
    V_pick [0, 1, 2, 3, 4, 6, 7] rfl (V_X9_cut_121_2  hk (jx (P := P) kk (if_neg c5)))) (fun c5 => V_iload (tat ok_X9_cut_1 (i := 26) (q := 112) rfl rfl) 6 rfl <|
    V_iload (tat ok_X9_cut_1 (i := 27) (q := 114) rfl rfl) 7 rfl <|
    V_cs2 (ct_X9_bitOf I L a7 a8 ) mo_X9_bitOf (tat ok_X9_cut_1 (i := 28) (q := 117) rfl rfl) ml_X9_155 ⟨(Nat.le_of_ble_eq_true rfl), (Nat.le_of_ble_eq_true rfl)⟩ ⟨(Nat.le_of_ble_eq_true rfl), (Nat.le_of_ble_eq_true rfl)⟩ (Nat.le_of_ble_eq_true rfl) <|
    V_goto (tat ok_X9_cut_1 (i := 29) (q := 120) rfl rfl) rfl <|
    V_pick [0, 1, 2, 3, 4, 6, 7] rfl (V_X9_cut_121_2  hk (jx (P := P) kk (if_pos c5))))
def F_X9_cut_130_1 (I : WI) (L : WL) (a1 : Int32) (a2 : Int32) (a3 : Int32) (a4 : Int32) (a7 : Int32) (a5 : Int64) : Int64 :=
  a5
theorem V_X9_cut_130_1  {I : WI} {L : WL} {a1 : Int32} {a2 : Int32} {a3 : Int32} {a4 : Int32} {a7 : Int32} {a5 : Int64} {P : Int64 → Prop} {t : Tg} (hk : ∀ x : Int64, P x → V (zM x_X9_cut 2 0 0 t) 73 [(0, .ref 33), (1, .int a1), (2, .int a2), (3, .int a3), (4, .int a4), (5, .long x), (7, .int (a7 + 1))] [] ly0 I L R0 0 0) (kk : P (F_X9_cut_130_1 I L a1 a2 a3 a4 a7 a5)) : V (zM x_X9_cut 2 0 0 t) 130 [(0, .ref 33), (1, .int a1), (2, .int a2), (3, .int a3), (4, .int a4), (5, .long a5), (7, .int a7)] [] ly0 I L R0 0 0 :=
  V_iinc (v := (a7 + 1)) (lv' := [(7, .int (a7 + 1)), (0, .ref 33), (1, .int a1), (2, .int a2), (3, .int a3), (4, .int a4), (5, .long a5)]) (tat ok_X9_cut_1 (i := 35) (q := 133) rfl rfl) 6 rfl (ia ic_1) (Nat.le_of_ble_eq_true rfl) rfl <|
    V_goto (tat ok_X9_cut_1 (i := 36) (q := 136) rfl rfl) rfl <|
    V_pick [1, 2, 3, 4, 5, 6, 0] rfl (hk a5 (jx (P := P) kk rfl))
def F_X9_cut_82_1 (I : WI) (L : WL) (a1 : Int32) (a2 : Int32) (a3 : Int32) (a4 : Int32) (a7 : Int32) (a5 : Int64) (a8 : Int32) : Int64 :=
  (fun q : Int32 × Int64 => (F_X9_cut_130_1 I L a1 a2 a3 a4 a7 (p2 q))) (fr0 (fun i x => (F_X9_cut_89_2 I L a1 a2 a3 a4 a7 i x)) a4 (fu a8 a4) a8 a5)
theorem V_X9_cut_82_1  {I : WI} {L : WL} {a1 : Int32} {a2 : Int32} {a3 : Int32} {a4 : Int32} {a7 : Int32} {a5 : Int64} {a8 : Int32} {P : Int64 → Prop} {t : Tg} (hb8 : bz a8 = a8) (hk : ∀ x : Int64, P x → V (zM x_X9_cut 2 0 0 t) 73 [(0, .ref 33), (1, .int a1), (2, .int a2), (3, .int a3), (4, .int a4), (5, .long x), (7, .int (a7 + 1))] [] ly0 I L R0 0 0) (kk : P (F_X9_cut_82_1 I L a1 a2 a3 a4 a7 a5 a8)) : V (zM x_X9_cut 2 0 0 t) 82 [(0, .ref 33), (1, .int a1), (2, .int a2), (3, .int a3), (4, .int a4), (5, .long a5), (7, .int a7), (8, .int a8)] [] ly0 I L R0 0 0 :=
  V_fr0 (fun i x => (F_X9_cut_89_2 I L a1 a2 a3 a4 a7 i x)) a4 (fun i x => V (zM x_X9_cut 2 0 0 t) 82 [(0, .ref 33), (1, .int a1), (2, .int a2), (3, .int a3), (4, .int a4), (5, .long x), (7, .int a7), (8, .int i)] [] ly0 I L R0 0 0) (fun i x => P ((F_X9_cut_130_1 I L a1 a2 a3 a4 a7 x))) (c := a8) (s := a5) (fun i x kx kb => V_iload (tat ok_X9_cut_1 (i := 11) (q := 84) rfl rfl) 7 rfl <|
    V_iload (tat ok_X9_cut_1 (i := 12) (q := 86) rfl rfl) 4 rfl <|
    V_icmp_ge (tat ok_X9_cut_1 (i := 13) (q := 89) rfl rfl) rfl (fun c0 => V_pick [0, 1, 2, 3, 4, 5, 6] rfl (V_X9_cut_130_1  hk (kx c0))) (fun c0 => V_X9_cut_89_2 (P := (fun x => (fun i x => V (zM x_X9_cut 2 0 0 t) 82 [(0, .ref 33), (1, .int a1), (2, .int a2), (3, .int a3), (4, .int a4), (5, .long x), (7, .int a7), (8, .int i)] [] ly0 I L R0 0 0) (i + 1) x))  (fun _ e => e) (kb c0))) kk
def F_X9_cut_79_1 (I : WI) (L : WL) (a1 : Int32) (a2 : Int32) (a3 : Int32) (a4 : Int32) (a7 : Int32) (a5 : Int64) : Int64 :=
  (F_X9_cut_82_1 I L a1 a2 a3 a4 a7 a5 0)
theorem V_X9_cut_79_1  {I : WI} {L : WL} {a1 : Int32} {a2 : Int32} {a3 : Int32} {a4 : Int32} {a7 : Int32} {a5 : Int64} {P : Int64 → Prop} {t : Tg} (hk : ∀ x : Int64, P x → V (zM x_X9_cut 2 0 0 t) 73 [(0, .ref 33), (1, .int a1), (2, .int a2), (3, .int a3), (4, .int a4), (5, .long x), (7, .int (a7 + 1))] [] ly0 I L R0 0 0) (kk : P (F_X9_cut_79_1 I L a1 a2 a3 a4 a7 a5)) : V (zM x_X9_cut 2 0 0 t) 79 [(0, .ref 33), (1, .int a1), (2, .int a2), (3, .int a3), (4, .int a4), (5, .long a5), (7, .int a7)] [] ly0 I L R0 0 0 :=
  V_iconst (tat ok_X9_cut_1 (i := 9) (q := 80) rfl rfl) ic_0 <|
    V_istore (lv' := [(8, .int 0), (0, .ref 33), (1, .int a1), (2, .int a2), (3, .int a3), (4, .int a4), (5, .long a5), (7, .int a7)]) (tat ok_X9_cut_1 (i := 10) (q := 82) rfl rfl) (Nat.le_of_ble_eq_true rfl) rfl <|
    V_pick [1, 2, 3, 4, 5, 6, 7, 0] rfl (V_X9_cut_82_1 rfl hk (jx (P := P) kk rfl))
def F_X9_cut_136 (I : WI) (L : WL) (a1 : Int32) (a2 : Int32) (a3 : Int32) (a4 : Int32) (a5 : Int64) : (Int32 × WI × WL) :=
  ((F_X9_many ((u2 L 33 2 a5) 33 2)), (F_X9_endsPattern (u2 (u2 I 33 0 a2) 33 1 a4)), (u2 L 33 2 a5))
theorem V_X9_cut_136  {I : WI} {L : WL} {a1 : Int32} {a2 : Int32} {a3 : Int32} {a4 : Int32} {a5 : Int64} {P : (Int32 × WI × WL) → Prop} {t : Tg} (hr : ∀ v, P v → t = (some (.int (p1 v)), ly0, (p1 (p2 v)), (p2 (p2 v)), R0)) (kk : P (F_X9_cut_136 I L a1 a2 a3 a4 a5)) : V (zM x_X9_cut 2 0 0 t) 136 [(0, .ref 33), (1, .int a1), (2, .int a2), (3, .int a3), (4, .int a4), (5, .long a5)] [] ly0 I L R0 0 0 :=
  V_aload_n (tat ok_X9_cut_1 (i := 37) (q := 137) rfl rfl) 0 rfl rfl <|
    V_lload (tat ok_X9_cut_1 (i := 38) (q := 139) rfl rfl) 5 rfl <|
    V_putL (tat ok_X9_cut_1 (i := 39) (q := 142) rfl rfl) fk_X9_80 rfl rfl <|
    V_aload_n (tat ok_X9_cut_2 (i := 0) (q := 143) rfl rfl) 0 rfl rfl <|
    V_iload_n (tat ok_X9_cut_2 (i := 1) (q := 144) rfl rfl) 2 rfl rfl <|
    V_putI (tat ok_X9_cut_2 (i := 2) (q := 147) rfl rfl) fk_X9_74 rfl rfl <|
    V_aload_n (tat ok_X9_cut_2 (i := 3) (q := 148) rfl rfl) 0 rfl rfl <|
    V_iload (tat ok_X9_cut_2 (i := 4) (q := 150) rfl rfl) 4 rfl <|
    V_putI (tat ok_X9_cut_2 (i := 5) (q := 153) rfl rfl) fk_X9_77 rfl rfl <|
    V_aload_n (tat ok_X9_cut_2 (i := 6) (q := 154) rfl rfl) 0 rfl rfl <|
    V_cv0v (ct_X9_endsPattern (u2 (u2 I 33 0 a2) 33 1 a4) (u2 L 33 2 a5)  ) mo_X9_endsPattern (tat ok_X9_cut_2 (i := 7) (q := 157) rfl rfl) ml_X9_314 rfl ⟨by decide, _, rfl, rfl⟩ ⟨(Nat.le_of_ble_eq_true rfl), (Nat.le_of_ble_eq_true rfl)⟩ ⟨(Nat.le_of_ble_eq_true rfl), (Nat.le_of_ble_eq_true rfl)⟩ (Nat.le_of_ble_eq_true rfl) <|
    V_aload_n (tat ok_X9_cut_2 (i := 8) (q := 158) rfl rfl) 0 rfl rfl <|
    V_getL (tat ok_X9_cut_2 (i := 9) (q := 161) rfl rfl) fk_X9_80 rfl <|
    V_cs1 (ct_X9_many (F_X9_endsPattern (u2 (u2 I 33 0 a2) 33 1 a4)) (u2 L 33 2 a5) ((u2 L 33 2 a5) 33 2) ) mo_X9_many (tat ok_X9_cut_2 (i := 10) (q := 164) rfl rfl) ml_X9_220 ⟨(Nat.le_of_ble_eq_true rfl), (Nat.le_of_ble_eq_true rfl)⟩ ⟨(Nat.le_of_ble_eq_true rfl), (Nat.le_of_ble_eq_true rfl)⟩ (Nat.le_of_ble_eq_true rfl) <|
    V_iret (tat ok_X9_cut_2 (i := 11) (q := 165) rfl rfl) _ rfl (nar_int _) (hr ((F_X9_many ((u2 L 33 2 a5) 33 2)), (F_X9_endsPattern (u2 (u2 I 33 0 a2) 33 1 a4)), (u2 L 33 2 a5)) (jx (P := P) kk rfl)) ⟨(Nat.le_of_ble_eq_true rfl), (Nat.le_of_ble_eq_true rfl)⟩
def F_X9_cut_73 (I : WI) (L : WL) (a1 : Int32) (a2 : Int32) (a3 : Int32) (a4 : Int32) (a5 : Int64) (a7 : Int32) : (Int32 × WI × WL) :=
  (fun q : Int32 × Int64 => (F_X9_cut_136 I L a1 a2 a3 a4 (p2 q))) (fr0 (fun i x => (F_X9_cut_79_1 I L a1 a2 a3 a4 i x)) a2 (fu a7 a2) a7 a5)
theorem V_X9_cut_73  {I : WI} {L : WL} {a1 : Int32} {a2 : Int32} {a3 : Int32} {a4 : Int32} {a5 : Int64} {a7 : Int32} {P : (Int32 × WI × WL) → Prop} {t : Tg} (hb7 : bz a7 = a7) (hr : ∀ v, P v → t = (some (.int (p1 v)), ly0, (p1 (p2 v)), (p2 (p2 v)), R0)) (kk : P (F_X9_cut_73 I L a1 a2 a3 a4 a5 a7)) : V (zM x_X9_cut 2 0 0 t) 73 [(0, .ref 33), (1, .int a1), (2, .int a2), (3, .int a3), (4, .int a4), (5, .long a5), (7, .int a7)] [] ly0 I L R0 0 0 :=
  V_fr0 (fun i x => (F_X9_cut_79_1 I L a1 a2 a3 a4 i x)) a2 (fun i x => V (zM x_X9_cut 2 0 0 t) 73 [(0, .ref 33), (1, .int a1), (2, .int a2), (3, .int a3), (4, .int a4), (5, .long x), (7, .int i)] [] ly0 I L R0 0 0) (fun i x => P ((F_X9_cut_136 I L a1 a2 a3 a4 x))) (c := a7) (s := a5) (fun i x kx kb => V_iload (tat ok_X9_cut_1 (i := 6) (q := 75) rfl rfl) 6 rfl <|
    V_iload_n (tat ok_X9_cut_1 (i := 7) (q := 76) rfl rfl) 2 rfl rfl <|
    V_icmp_ge (tat ok_X9_cut_1 (i := 8) (q := 79) rfl rfl) rfl (fun c0 => V_pick [0, 1, 2, 3, 4, 5] rfl (V_X9_cut_136  hr (kx c0))) (fun c0 => V_X9_cut_79_1 (P := (fun x => (fun i x => V (zM x_X9_cut 2 0 0 t) 73 [(0, .ref 33), (1, .int a1), (2, .int a2), (3, .int a3), (4, .int a4), (5, .long x), (7, .int i)] [] ly0 I L R0 0 0) (i + 1) x))  (fun _ e => e) (kb c0))) kk
def F_X9_cut (I : WI) (L : WL) (a1 : Int32) (a2 : Int32) (a3 : Int32) (a4 : Int32) : (Int32 × WI × WL) :=
  (if (F_X9_in (Int32.toInt64 a1) 0 (Int32.toInt64 ((I 33 0) - 1))) = 0 then (F_X9_cut_65 I L a1 a2 a3 a4) else (if (F_X9_in (Int32.toInt64 a2) 1 (Int32.toInt64 ((I 33 0) - a1))) = 0 then (F_X9_cut_65 I L a1 a2 a3 a4) else (if (F_X9_in (Int32.toInt64 a3) 0 (Int32.toInt64 ((I 33 1) - 1))) = 0 then (F_X9_cut_65 I L a1 a2 a3 a4) else (if (F_X9_in (Int32.toInt64 a4) 1 (Int32.toInt64 ((I 33 1) - a3))) = 0 then (F_X9_cut_65 I L a1 a2 a3 a4) else (F_X9_cut_73 I L a1 a2 a3 a4 0 0)))))
theorem V_X9_cut  {I : WI} {L : WL} {a1 : Int32} {a2 : Int32} {a3 : Int32} {a4 : Int32}  {P : (Int32 × WI × WL) → Prop} {t : Tg} (hr : ∀ v, P v → t = (some (.int (p1 v)), ly0, (p1 (p2 v)), (p2 (p2 v)), R0)) (kk : P (F_X9_cut I L a1 a2 a3 a4)) : V (zM x_X9_cut 2 0 0 t) 0 [(0, .ref 33), (1, .int a1), (2, .int a2), (3, .int a3), (4, .int a4)] [] ly0 I L R0 0 0 :=
  V_iload_n (tat ok_X9_cut_0 (i := 0) (q := 1) rfl rfl) 1 rfl rfl <|
    V_i2l (tat ok_X9_cut_0 (i := 1) (q := 2) rfl rfl) <|
    V_lconst (v := 0) (tat ok_X9_cut_0 (i := 2) (q := 3) rfl rfl) rfl <|
    V_aload_n (tat ok_X9_cut_0 (i := 3) (q := 4) rfl rfl) 0 rfl rfl <|
    V_getI (tat ok_X9_cut_0 (i := 4) (q := 7) rfl rfl) fk_X9_74 rfl <|
    V_iconst (tat ok_X9_cut_0 (i := 5) (q := 8) rfl rfl) ic_1 <|
    V_isub (tat ok_X9_cut_0 (i := 6) (q := 9) rfl rfl) <|
    V_i2l (tat ok_X9_cut_0 (i := 7) (q := 10) rfl rfl) <|
    V_cs3 (ct_X9_in I L (Int32.toInt64 a1) 0 (Int32.toInt64 ((I 33 0) - 1)) ) mo_X9_in (tat ok_X9_cut_0 (i := 8) (q := 13) rfl rfl) ml_X9_97 ⟨(Nat.le_of_ble_eq_true rfl), (Nat.le_of_ble_eq_true rfl)⟩ ⟨(Nat.le_of_ble_eq_true rfl), (Nat.le_of_ble_eq_true rfl)⟩ (Nat.le_of_ble_eq_true rfl) <|
    V_if_eq (tat ok_X9_cut_0 (i := 9) (q := 16) rfl rfl) rfl (fun c1 => V_X9_cut_65  hr (jx (P := P) kk (if_pos c1))) (fun c1 => V_iload_n (tat ok_X9_cut_0 (i := 10) (q := 17) rfl rfl) 2 rfl rfl <|
    V_i2l (tat ok_X9_cut_0 (i := 11) (q := 18) rfl rfl) <|
    V_lconst (v := 1) (tat ok_X9_cut_0 (i := 12) (q := 19) rfl rfl) rfl <|
    V_aload_n (tat ok_X9_cut_0 (i := 13) (q := 20) rfl rfl) 0 rfl rfl <|
    V_getI (tat ok_X9_cut_0 (i := 14) (q := 23) rfl rfl) fk_X9_74 rfl <|
    V_iload_n (tat ok_X9_cut_0 (i := 15) (q := 24) rfl rfl) 1 rfl rfl <|
    V_isub (tat ok_X9_cut_0 (i := 16) (q := 25) rfl rfl) <|
    V_i2l (tat ok_X9_cut_0 (i := 17) (q := 26) rfl rfl) <|
    V_cs3 (ct_X9_in I L (Int32.toInt64 a2) 1 (Int32.toInt64 ((I 33 0) - a1)) ) mo_X9_in (tat ok_X9_cut_0 (i := 18) (q := 29) rfl rfl) ml_X9_97 ⟨(Nat.le_of_ble_eq_true rfl), (Nat.le_of_ble_eq_true rfl)⟩ ⟨(Nat.le_of_ble_eq_true rfl), (Nat.le_of_ble_eq_true rfl)⟩ (Nat.le_of_ble_eq_true rfl) <|
    V_if_eq (tat ok_X9_cut_0 (i := 19) (q := 32) rfl rfl) rfl (fun c2 => V_X9_cut_65  hr (jx (P := P) kk (Eq.trans (if_neg c1) (if_pos c2)))) (fun c2 => V_iload_n (tat ok_X9_cut_0 (i := 20) (q := 33) rfl rfl) 3 rfl rfl <|
    V_i2l (tat ok_X9_cut_0 (i := 21) (q := 34) rfl rfl) <|
    V_lconst (v := 0) (tat ok_X9_cut_0 (i := 22) (q := 35) rfl rfl) rfl <|
    V_aload_n (tat ok_X9_cut_0 (i := 23) (q := 36) rfl rfl) 0 rfl rfl <|
    V_getI (tat ok_X9_cut_0 (i := 24) (q := 39) rfl rfl) fk_X9_77 rfl <|
    V_iconst (tat ok_X9_cut_0 (i := 25) (q := 40) rfl rfl) ic_1 <|
    V_isub (tat ok_X9_cut_0 (i := 26) (q := 41) rfl rfl) <|
    V_i2l (tat ok_X9_cut_0 (i := 27) (q := 42) rfl rfl) <|
    V_cs3 (ct_X9_in I L (Int32.toInt64 a3) 0 (Int32.toInt64 ((I 33 1) - 1)) ) mo_X9_in (tat ok_X9_cut_0 (i := 28) (q := 45) rfl rfl) ml_X9_97 ⟨(Nat.le_of_ble_eq_true rfl), (Nat.le_of_ble_eq_true rfl)⟩ ⟨(Nat.le_of_ble_eq_true rfl), (Nat.le_of_ble_eq_true rfl)⟩ (Nat.le_of_ble_eq_true rfl) <|
    V_if_eq (tat ok_X9_cut_0 (i := 29) (q := 48) rfl rfl) rfl (fun c3 => V_X9_cut_65  hr (jx (P := P) kk (Eq.trans (if_neg c1) (Eq.trans (if_neg c2) (if_pos c3))))) (fun c3 => V_iload (tat ok_X9_cut_0 (i := 30) (q := 50) rfl rfl) 4 rfl <|
    V_i2l (tat ok_X9_cut_0 (i := 31) (q := 51) rfl rfl) <|
    V_lconst (v := 1) (tat ok_X9_cut_0 (i := 32) (q := 52) rfl rfl) rfl <|
    V_aload_n (tat ok_X9_cut_0 (i := 33) (q := 53) rfl rfl) 0 rfl rfl <|
    V_getI (tat ok_X9_cut_0 (i := 34) (q := 56) rfl rfl) fk_X9_77 rfl <|
    V_iload_n (tat ok_X9_cut_0 (i := 35) (q := 57) rfl rfl) 3 rfl rfl <|
    V_isub (tat ok_X9_cut_0 (i := 36) (q := 58) rfl rfl) <|
    V_i2l (tat ok_X9_cut_0 (i := 37) (q := 59) rfl rfl) <|
    V_cs3 (ct_X9_in I L (Int32.toInt64 a4) 1 (Int32.toInt64 ((I 33 1) - a3)) ) mo_X9_in (tat ok_X9_cut_0 (i := 38) (q := 62) rfl rfl) ml_X9_97 ⟨(Nat.le_of_ble_eq_true rfl), (Nat.le_of_ble_eq_true rfl)⟩ ⟨(Nat.le_of_ble_eq_true rfl), (Nat.le_of_ble_eq_true rfl)⟩ (Nat.le_of_ble_eq_true rfl) <|
    V_if_ne (tat ok_X9_cut_0 (i := 39) (q := 65) rfl rfl) rfl (fun c4 => V_lconst (v := 0) (tat ok_X9_cut_1 (i := 2) (q := 68) rfl rfl) rfl <|
    V_lstore (lv' := [(5, .long 0), (0, .ref 33), (1, .int a1), (2, .int a2), (3, .int a3), (4, .int a4)]) (tat ok_X9_cut_1 (i := 3) (q := 70) rfl rfl) (Nat.le_of_ble_eq_true rfl) rfl <|
    V_iconst (tat ok_X9_cut_1 (i := 4) (q := 71) rfl rfl) ic_0 <|
    V_istore (lv' := [(7, .int 0), (5, .long 0), (0, .ref 33), (1, .int a1), (2, .int a2), (3, .int a3), (4, .int a4)]) (tat ok_X9_cut_1 (i := 5) (q := 73) rfl rfl) (Nat.le_of_ble_eq_true rfl) rfl <|
    V_pick [2, 3, 4, 5, 6, 1, 0] rfl (V_X9_cut_73 rfl hr (jx (P := P) kk (Eq.trans (if_neg c1) (Eq.trans (if_neg c2) (Eq.trans (if_neg c3) (if_neg c4))))))) (fun c4 => V_X9_cut_65  hr (jx (P := P) kk (Eq.trans (if_neg c1) (Eq.trans (if_neg c2) (Eq.trans (if_neg c3) (if_pos c4)))))))))
theorem ct_X9_cut  (I : WI) (L : WL) (a1 : Int32) (a2 : Int32) (a3 : Int32) (a4 : Int32)  : Ct x_X9_cut 2 [.ref 33, .int a1, .int a2, .int a3, .int a4] ly0 I L R0 0 0 (some (.int (p1 (F_X9_cut I L a1 a2 a3 a4))), ly0, (p1 (p2 (F_X9_cut I L a1 a2 a3 a4))), (p2 (p2 (F_X9_cut I L a1 a2 a3 a4))), R0) :=
  Ct_of_V mo_X9_cut.1 (Nat.le_of_ble_eq_true rfl) (V_X9_cut (P := fun x => x = (F_X9_cut I L a1 a2 a3 a4))  (fun _ e => by rw [e]) rfl)
def F_X9_sew_50 (I : WI) (L : WL) (a1 : Int32) (a2 : Int32) : Option (Int32 × WI × WL) :=
  some ((-2), I, L)
theorem V_X9_sew_50  {I : WI} {L : WL} {a1 : Int32} {a2 : Int32}  {P : (Int32 × WI × WL) → Prop} {t : Tg} (hr : ∀ v, P v → t = (some (.int (p1 v)), ly0, (p1 (p2 v)), (p2 (p2 v)), R0)) : oP P (F_X9_sew_50 I L a1 a2) → V (zM x_X9_sew 3 0 0 t) 50 [(0, .ref 33), (1, .int a1), (2, .int a2)] [] ly0 I L R0 0 0 :=
  fun _ =>
  have kq : (oP P (F_X9_sew_50 I L a1 a2)) ∧ True := ⟨by assumption, trivial⟩
  V_bipush (tat ok_X9_sew_0 (i := 26) (q := 52) rfl rfl) bp_m2 <|
    V_iret (tat ok_X9_sew_0 (i := 27) (q := 53) rfl rfl) _ rfl (nar_int _) (hr ((-2), I, L) (jq (P := oP P) kq rfl)) ⟨(Nat.le_of_ble_eq_true rfl), (Nat.le_of_ble_eq_true rfl)⟩
def F_X9_sew_166 (I : WI) (L : WL) (a1 : Int32) (a2 : Int32) (s0 : Int32) (s1 : Int32) : Option (Int32 × WI × WL) :=
  some ((F_X9_many (L 33 2)), (F_X9_endsPattern (u2 I 33 1 (s1 + s0))), L)
theorem V_X9_sew_166  {I : WI} {L : WL} {a1 : Int32} {a2 : Int32} {s0 : Int32} {s1 : Int32} {P : (Int32 × WI × WL) → Prop} {t : Tg} (hr : ∀ v, P v → t = (some (.int (p1 v)), ly0, (p1 (p2 v)), (p2 (p2 v)), R0)) : oP P (F_X9_sew_166 I L a1 a2 s0 s1) → V (zM x_X9_sew 3 0 0 t) 166 [(0, .ref 33), (1, .int a1), (2, .int a2)] [.int s0, .int s1, .ref 33] ly0 I L R0 0 0 :=
  fun _ =>
  have kq : (oP P (F_X9_sew_166 I L a1 a2 s0 s1)) ∧ True := ⟨by assumption, trivial⟩
  V_iadd (tat ok_X9_sew_2 (i := 12) (q := 167) rfl rfl) <|
    V_putI (tat ok_X9_sew_2 (i := 13) (q := 170) rfl rfl) fk_X9_77 rfl rfl <|
    V_aload_n (tat ok_X9_sew_2 (i := 14) (q := 171) rfl rfl) 0 rfl rfl <|
    V_cv0v (ct_X9_endsPattern (u2 I 33 1 (s1 + s0)) L  ) mo_X9_endsPattern (tat ok_X9_sew_2 (i := 15) (q := 174) rfl rfl) ml_X9_314 rfl ⟨by decide, _, rfl, rfl⟩ ⟨(Nat.le_of_ble_eq_true rfl), (Nat.le_of_ble_eq_true rfl)⟩ ⟨(Nat.le_of_ble_eq_true rfl), (Nat.le_of_ble_eq_true rfl)⟩ (Nat.le_of_ble_eq_true rfl) <|
    V_aload_n (tat ok_X9_sew_2 (i := 16) (q := 175) rfl rfl) 0 rfl rfl <|
    V_getL (tat ok_X9_sew_2 (i := 17) (q := 178) rfl rfl) fk_X9_80 rfl <|
    V_cs1 (ct_X9_many (F_X9_endsPattern (u2 I 33 1 (s1 + s0))) L (L 33 2) ) mo_X9_many (tat ok_X9_sew_2 (i := 18) (q := 181) rfl rfl) ml_X9_220 ⟨(Nat.le_of_ble_eq_true rfl), (Nat.le_of_ble_eq_true rfl)⟩ ⟨(Nat.le_of_ble_eq_true rfl), (Nat.le_of_ble_eq_true rfl)⟩ (Nat.le_of_ble_eq_true rfl) <|
    V_iret (tat ok_X9_sew_2 (i := 19) (q := 182) rfl rfl) _ rfl (nar_int _) (hr ((F_X9_many (L 33 2)), (F_X9_endsPattern (u2 I 33 1 (s1 + s0))), L) (jq (P := oP P) kq rfl)) ⟨(Nat.le_of_ble_eq_true rfl), (Nat.le_of_ble_eq_true rfl)⟩
def F_X9_sew_143 (I : WI) (L : WL) (a1 : Int32) (a2 : Int32) (s0 : Int32) (s1 : Int32) : Option (Int32 × WI × WL) :=
  (if a2 = 0 then (if a1 < 0 ∨ 2 ≤ Int32.toNatClampNeg a1 then none else (F_X9_sew_166 (u2 I 33 0 (s1 + s0)) L a1 a2 ((u2 I 33 0 (s1 + s0)) 37 (Int32.toNatClampNeg a1)) ((u2 I 33 0 (s1 + s0)) 33 1))) else (F_X9_sew_166 (u2 I 33 0 (s1 + s0)) L a1 a2 0 ((u2 I 33 0 (s1 + s0)) 33 1)))
theorem V_X9_sew_143  {I : WI} {L : WL} {a1 : Int32} {a2 : Int32} {s0 : Int32} {s1 : Int32} {P : (Int32 × WI × WL) → Prop} {t : Tg} (hr : ∀ v, P v → t = (some (.int (p1 v)), ly0, (p1 (p2 v)), (p2 (p2 v)), R0)) : oP P (F_X9_sew_143 I L a1 a2 s0 s1) → V (zM x_X9_sew 3 0 0 t) 143 [(0, .ref 33), (1, .int a1), (2, .int a2)] [.int s0, .int s1, .ref 33] ly0 I L R0 0 0 :=
  fun _ =>
  have kq : (oP P (F_X9_sew_143 I L a1 a2 s0 s1)) ∧ True := ⟨by assumption, trivial⟩
  V_iadd (tat ok_X9_sew_1 (i := 39) (q := 144) rfl rfl) <|
    V_putI (tat ok_X9_sew_2 (i := 0) (q := 147) rfl rfl) fk_X9_74 rfl rfl <|
    V_aload_n (tat ok_X9_sew_2 (i := 1) (q := 148) rfl rfl) 0 rfl rfl <|
    V_dup (tat ok_X9_sew_2 (i := 2) (q := 149) rfl rfl) rfl <|
    V_getI (tat ok_X9_sew_2 (i := 3) (q := 152) rfl rfl) fk_X9_77 rfl <|
    V_iload_n (tat ok_X9_sew_2 (i := 4) (q := 153) rfl rfl) 2 rfl rfl <|
    V_if_eq (tat ok_X9_sew_2 (i := 5) (q := 156) rfl rfl) rfl (fun c14 => V_aload_n (tat ok_X9_sew_2 (i := 8) (q := 161) rfl rfl) 0 rfl rfl <|
    V_getR (tat ok_X9_sew_2 (i := 9) (q := 164) rfl rfl) fk_X9_20 rfl rfl <|
    V_iload_n (tat ok_X9_sew_2 (i := 10) (q := 165) rfl rfl) 1 rfl rfl <|
    (if c15 : a1 < 0 ∨ 2 ≤ Int32.toNatClampNeg a1 then ((jq (P := oP P) kq (Eq.trans (if_pos c14) (if_pos c15)))).elim else V_iald (tat ok_X9_sew_2 (i := 11) (q := 166) rfl rfl) rfl c15 <|
    V_X9_sew_166  hr (jq (P := oP P) kq (Eq.trans (if_pos c14) (if_neg c15))))) (fun c14 => V_iconst (tat ok_X9_sew_2 (i := 6) (q := 157) rfl rfl) ic_0 <|
    V_goto (tat ok_X9_sew_2 (i := 7) (q := 160) rfl rfl) rfl <|
    V_X9_sew_166  hr (jq (P := oP P) kq (if_neg c14)))
def F_X9_sew_119 (I : WI) (L : WL) (a1 : Int32) (a2 : Int32) (s0 : Int32) (s1 : Int64) (s2 : Int64) : Option (Int32 × WI × WL) :=
  (if a2 = 0 then (F_X9_sew_143 I (u2 L 33 2 (s2 ||| (lsh s1 s0))) a1 a2 0 (I 33 0)) else (if a1 < 0 ∨ 2 ≤ Int32.toNatClampNeg a1 then none else (F_X9_sew_143 I (u2 L 33 2 (s2 ||| (lsh s1 s0))) a1 a2 (I 36 (Int32.toNatClampNeg a1)) (I 33 0))))
theorem V_X9_sew_119  {I : WI} {L : WL} {a1 : Int32} {a2 : Int32} {s0 : Int32} {s1 : Int64} {s2 : Int64} {P : (Int32 × WI × WL) → Prop} {t : Tg} (hr : ∀ v, P v → t = (some (.int (p1 v)), ly0, (p1 (p2 v)), (p2 (p2 v)), R0)) : oP P (F_X9_sew_119 I L a1 a2 s0 s1 s2) → V (zM x_X9_sew 3 0 0 t) 119 [(0, .ref 33), (1, .int a1), (2, .int a2)] [.int s0, .long s1, .long s2, .ref 33] ly0 I L R0 0 0 :=
  fun _ =>
  have kq : (oP P (F_X9_sew_119 I L a1 a2 s0 s1 s2)) ∧ True := ⟨by assumption, trivial⟩
  V_lshl (tat ok_X9_sew_1 (i := 25) (q := 120) rfl rfl) <|
    V_lor (tat ok_X9_sew_1 (i := 26) (q := 121) rfl rfl) <|
    V_putL (tat ok_X9_sew_1 (i := 27) (q := 124) rfl rfl) fk_X9_80 rfl rfl <|
    V_aload_n (tat ok_X9_sew_1 (i := 28) (q := 125) rfl rfl) 0 rfl rfl <|
    V_dup (tat ok_X9_sew_1 (i := 29) (q := 126) rfl rfl) rfl <|
    V_getI (tat ok_X9_sew_1 (i := 30) (q := 129) rfl rfl) fk_X9_74 rfl <|
    V_iload_n (tat ok_X9_sew_1 (i := 31) (q := 130) rfl rfl) 2 rfl rfl <|
    V_if_eq (tat ok_X9_sew_1 (i := 32) (q := 133) rfl rfl) rfl (fun c13 => V_iconst (tat ok_X9_sew_1 (i := 38) (q := 143) rfl rfl) ic_0 <|
    V_X9_sew_143  hr (jq (P := oP P) kq (if_pos c13))) (fun c13 => V_aload_n (tat ok_X9_sew_1 (i := 33) (q := 134) rfl rfl) 0 rfl rfl <|
    V_getR (tat ok_X9_sew_1 (i := 34) (q := 137) rfl rfl) fk_X9_17 rfl rfl <|
    V_iload_n (tat ok_X9_sew_1 (i := 35) (q := 138) rfl rfl) 1 rfl rfl <|
    (if c16 : a1 < 0 ∨ 2 ≤ Int32.toNatClampNeg a1 then ((jq (P := oP P) kq (Eq.trans (if_neg c13) (if_pos c16)))).elim else V_iald (tat ok_X9_sew_1 (i := 36) (q := 139) rfl rfl) rfl c16 <|
    V_goto (tat ok_X9_sew_1 (i := 37) (q := 142) rfl rfl) rfl <|
    V_X9_sew_143  hr (jq (P := oP P) kq (Eq.trans (if_neg c13) (if_neg c16)))))
def F_X9_sew_82 (I : WI) (L : WL) (a1 : Int32) (a2 : Int32) (s0 : Int32) : Option (Int32 × WI × WL) :=
  (if s0 ≤ 8 then (if a1 < 0 ∨ 2 ≤ Int32.toNatClampNeg a1 then none else (if a2 = 0 then (F_X9_sew_119 I L a1 a2 (I 33 1) (L 35 (Int32.toNatClampNeg a1)) (L 33 2)) else (F_X9_sew_119 I L a1 a2 (8 * (I 33 0)) (L 35 (Int32.toNatClampNeg a1)) (L 33 2)))) else some ((-3), I, L))
theorem V_X9_sew_82  {I : WI} {L : WL} {a1 : Int32} {a2 : Int32} {s0 : Int32} {P : (Int32 × WI × WL) → Prop} {t : Tg} (hr : ∀ v, P v → t = (some (.int (p1 v)), ly0, (p1 (p2 v)), (p2 (p2 v)), R0)) : oP P (F_X9_sew_82 I L a1 a2 s0) → V (zM x_X9_sew 3 0 0 t) 82 [(0, .ref 33), (1, .int a1), (2, .int a2)] [.int s0] ly0 I L R0 0 0 :=
  fun _ =>
  have kq : (oP P (F_X9_sew_82 I L a1 a2 s0)) ∧ True := ⟨by assumption, trivial⟩
  V_bipush (tat ok_X9_sew_1 (i := 5) (q := 84) rfl rfl) bp_8 <|
    V_icmp_le (tat ok_X9_sew_1 (i := 6) (q := 87) rfl rfl) rfl (fun c10 => V_aload_n (tat ok_X9_sew_1 (i := 9) (q := 91) rfl rfl) 0 rfl rfl <|
    V_dup (tat ok_X9_sew_1 (i := 10) (q := 92) rfl rfl) rfl <|
    V_getL (tat ok_X9_sew_1 (i := 11) (q := 95) rfl rfl) fk_X9_80 rfl <|
    V_aload_n (tat ok_X9_sew_1 (i := 12) (q := 96) rfl rfl) 0 rfl rfl <|
    V_getR (tat ok_X9_sew_1 (i := 13) (q := 99) rfl rfl) fk_X9_13 rfl rfl <|
    V_iload_n (tat ok_X9_sew_1 (i := 14) (q := 100) rfl rfl) 1 rfl rfl <|
    (if c11 : a1 < 0 ∨ 2 ≤ Int32.toNatClampNeg a1 then ((jq (P := oP P) kq (Eq.trans (if_pos c10) (if_pos c11)))).elim else V_lald (tat ok_X9_sew_1 (i := 15) (q := 101) rfl rfl) rfl c11 <|
    V_iload_n (tat ok_X9_sew_1 (i := 16) (q := 102) rfl rfl) 2 rfl rfl <|
    V_if_eq (tat ok_X9_sew_1 (i := 17) (q := 105) rfl rfl) rfl (fun c12 => V_aload_n (tat ok_X9_sew_1 (i := 23) (q := 116) rfl rfl) 0 rfl rfl <|
    V_getI (tat ok_X9_sew_1 (i := 24) (q := 119) rfl rfl) fk_X9_77 rfl <|
    V_X9_sew_119  hr (jq (P := oP P) kq (Eq.trans (if_pos c10) (Eq.trans (if_neg c11) (if_pos c12))))) (fun c12 => V_bipush (tat ok_X9_sew_1 (i := 18) (q := 107) rfl rfl) bp_8 <|
    V_aload_n (tat ok_X9_sew_1 (i := 19) (q := 108) rfl rfl) 0 rfl rfl <|
    V_getI (tat ok_X9_sew_1 (i := 20) (q := 111) rfl rfl) fk_X9_74 rfl <|
    V_imul (tat ok_X9_sew_1 (i := 21) (q := 112) rfl rfl) <|
    V_goto (tat ok_X9_sew_1 (i := 22) (q := 115) rfl rfl) rfl <|
    V_X9_sew_119  hr (jq (P := oP P) kq (Eq.trans (if_pos c10) (Eq.trans (if_neg c11) (if_neg c12))))))) (fun c10 => V_bipush (tat ok_X9_sew_1 (i := 7) (q := 89) rfl rfl) bp_m3 <|
    V_iret (tat ok_X9_sew_1 (i := 8) (q := 90) rfl rfl) _ rfl (nar_int _) (hr ((-3), I, L) (jq (P := oP P) kq (if_neg c10))) ⟨(Nat.le_of_ble_eq_true rfl), (Nat.le_of_ble_eq_true rfl)⟩)
def F_X9_sew_53 (I : WI) (L : WL) (a1 : Int32) (a2 : Int32) : Option (Int32 × WI × WL) :=
  (if a2 = 0 then (if a1 < 0 ∨ 2 ≤ Int32.toNatClampNeg a1 then none else (F_X9_sew_82 I L a1 a2 ((I 33 1) + (I 37 (Int32.toNatClampNeg a1))))) else (if a1 < 0 ∨ 2 ≤ Int32.toNatClampNeg a1 then none else (F_X9_sew_82 I L a1 a2 ((I 33 0) + (I 36 (Int32.toNatClampNeg a1))))))
theorem V_X9_sew_53  {I : WI} {L : WL} {a1 : Int32} {a2 : Int32}  {P : (Int32 × WI × WL) → Prop} {t : Tg} (hr : ∀ v, P v → t = (some (.int (p1 v)), ly0, (p1 (p2 v)), (p2 (p2 v)), R0)) : oP P (F_X9_sew_53 I L a1 a2) → V (zM x_X9_sew 3 0 0 t) 53 [(0, .ref 33), (1, .int a1), (2, .int a2)] [] ly0 I L R0 0 0 :=
  fun _ =>
  have kq : (oP P (F_X9_sew_53 I L a1 a2)) ∧ True := ⟨by assumption, trivial⟩
  V_iload_n (tat ok_X9_sew_0 (i := 28) (q := 54) rfl rfl) 2 rfl rfl <|
    V_if_eq (tat ok_X9_sew_0 (i := 29) (q := 57) rfl rfl) rfl (fun c8 => V_aload_n (tat ok_X9_sew_0 (i := 38) (q := 72) rfl rfl) 0 rfl rfl <|
    V_getI (tat ok_X9_sew_0 (i := 39) (q := 75) rfl rfl) fk_X9_77 rfl <|
    V_aload_n (tat ok_X9_sew_1 (i := 0) (q := 76) rfl rfl) 0 rfl rfl <|
    V_getR (tat ok_X9_sew_1 (i := 1) (q := 79) rfl rfl) fk_X9_20 rfl rfl <|
    V_iload_n (tat ok_X9_sew_1 (i := 2) (q := 80) rfl rfl) 1 rfl rfl <|
    (if c9 : a1 < 0 ∨ 2 ≤ Int32.toNatClampNeg a1 then ((jq (P := oP P) kq (Eq.trans (if_pos c8) (if_pos c9)))).elim else V_iald (tat ok_X9_sew_1 (i := 3) (q := 81) rfl rfl) rfl c9 <|
    V_iadd (tat ok_X9_sew_1 (i := 4) (q := 82) rfl rfl) <|
    V_X9_sew_82  hr (jq (P := oP P) kq (Eq.trans (if_pos c8) (if_neg c9))))) (fun c8 => V_aload_n (tat ok_X9_sew_0 (i := 30) (q := 58) rfl rfl) 0 rfl rfl <|
    V_getI (tat ok_X9_sew_0 (i := 31) (q := 61) rfl rfl) fk_X9_74 rfl <|
    V_aload_n (tat ok_X9_sew_0 (i := 32) (q := 62) rfl rfl) 0 rfl rfl <|
    V_getR (tat ok_X9_sew_0 (i := 33) (q := 65) rfl rfl) fk_X9_17 rfl rfl <|
    V_iload_n (tat ok_X9_sew_0 (i := 34) (q := 66) rfl rfl) 1 rfl rfl <|
    (if c17 : a1 < 0 ∨ 2 ≤ Int32.toNatClampNeg a1 then ((jq (P := oP P) kq (Eq.trans (if_neg c8) (if_pos c17)))).elim else V_iald (tat ok_X9_sew_0 (i := 35) (q := 67) rfl rfl) rfl c17 <|
    V_iadd (tat ok_X9_sew_0 (i := 36) (q := 68) rfl rfl) <|
    V_goto (tat ok_X9_sew_0 (i := 37) (q := 71) rfl rfl) rfl <|
    V_X9_sew_82  hr (jq (P := oP P) kq (Eq.trans (if_neg c8) (if_neg c17)))))
def F_X9_sew (I : WI) (L : WL) (a1 : Int32) (a2 : Int32) : Option (Int32 × WI × WL) :=
  (Option.bind (F_X9_isImage a1) (fun v1 => (if v1 = 0 then some ((-1), I, L) else (Option.bind (F_X9_isKept I a1) (fun v3 => (if v3 = 0 then (F_X9_sew_50 I L a1 a2) else (if a2 = 0 then (if a1 < 0 ∨ 2 ≤ Int32.toNatClampNeg a1 then none else (if (I 36 (Int32.toNatClampNeg a1)) = (I 33 0) then (F_X9_sew_53 I L a1 a2) else (F_X9_sew_50 I L a1 a2))) else (if a1 < 0 ∨ 2 ≤ Int32.toNatClampNeg a1 then none else (if (I 37 (Int32.toNatClampNeg a1)) = (I 33 1) then (F_X9_sew_53 I L a1 a2) else (F_X9_sew_50 I L a1 a2))))))))))
theorem V_X9_sew  {I : WI} {L : WL} {a1 : Int32} {a2 : Int32}  {P : (Int32 × WI × WL) → Prop} {t : Tg} (hr : ∀ v, P v → t = (some (.int (p1 v)), ly0, (p1 (p2 v)), (p2 (p2 v)), R0)) : oP P (F_X9_sew I L a1 a2) → V (zM x_X9_sew 3 0 0 t) 0 [(0, .ref 33), (1, .int a1), (2, .int a2)] [] ly0 I L R0 0 0 :=
  fun _ =>
  have kq : (oP P (F_X9_sew I L a1 a2)) ∧ True := ⟨by assumption, trivial⟩
  V_iload_n (tat ok_X9_sew_0 (i := 0) (q := 1) rfl rfl) 1 rfl rfl <|
    oP_case (jq (P := oP P) kq rfl) (fun v1 e1 _ => V_cs1 (ct_X9_isImage I L a1  e1) mo_X9_isImage (tat ok_X9_sew_0 (i := 1) (q := 4) rfl rfl) ml_X9_235 ⟨(Nat.le_of_ble_eq_true rfl), (Nat.le_of_ble_eq_true rfl)⟩ ⟨(Nat.le_of_ble_eq_true rfl), (Nat.le_of_ble_eq_true rfl)⟩ (Nat.le_of_ble_eq_true rfl) <|
    V_if_ne (tat ok_X9_sew_0 (i := 2) (q := 7) rfl rfl) rfl (fun c2 => V_aload_n (tat ok_X9_sew_0 (i := 5) (q := 10) rfl rfl) 0 rfl rfl <|
    V_iload_n (tat ok_X9_sew_0 (i := 6) (q := 11) rfl rfl) 1 rfl rfl <|
    oP_case (jq (P := oP P) kq (Eq.trans (ob e1) (if_neg c2))) (fun v3 e3 _ => V_cv1 (ct_X9_isKept I L a1  e3) mo_X9_isKept (tat ok_X9_sew_0 (i := 7) (q := 14) rfl rfl) ml_X9_239 rfl ⟨by decide, _, rfl, rfl⟩ ⟨(Nat.le_of_ble_eq_true rfl), (Nat.le_of_ble_eq_true rfl)⟩ ⟨(Nat.le_of_ble_eq_true rfl), (Nat.le_of_ble_eq_true rfl)⟩ (Nat.le_of_ble_eq_true rfl) <|
    V_if_eq (tat ok_X9_sew_0 (i := 8) (q := 17) rfl rfl) rfl (fun c4 => V_X9_sew_50  hr (jq (P := oP P) kq (Eq.trans (ob e1) (Eq.trans (if_neg c2) (Eq.trans (ob e3) (if_pos c4)))))) (fun c4 => V_iload_n (tat ok_X9_sew_0 (i := 9) (q := 18) rfl rfl) 2 rfl rfl <|
    V_if_eq (tat ok_X9_sew_0 (i := 10) (q := 21) rfl rfl) rfl (fun c5 => V_aload_n (tat ok_X9_sew_0 (i := 19) (q := 38) rfl rfl) 0 rfl rfl <|
    V_getR (tat ok_X9_sew_0 (i := 20) (q := 41) rfl rfl) fk_X9_17 rfl rfl <|
    V_iload_n (tat ok_X9_sew_0 (i := 21) (q := 42) rfl rfl) 1 rfl rfl <|
    (if c6 : a1 < 0 ∨ 2 ≤ Int32.toNatClampNeg a1 then ((jq (P := oP P) kq (Eq.trans (ob e1) (Eq.trans (if_neg c2) (Eq.trans (ob e3) (Eq.trans (if_neg c4) (Eq.trans (if_pos c5) (if_pos c6)))))))).elim else V_iald (tat ok_X9_sew_0 (i := 22) (q := 43) rfl rfl) rfl c6 <|
    V_aload_n (tat ok_X9_sew_0 (i := 23) (q := 44) rfl rfl) 0 rfl rfl <|
    V_getI (tat ok_X9_sew_0 (i := 24) (q := 47) rfl rfl) fk_X9_74 rfl <|
    V_icmp_eq (tat ok_X9_sew_0 (i := 25) (q := 50) rfl rfl) rfl (fun c7 => V_X9_sew_53  hr (jq (P := oP P) kq (Eq.trans (ob e1) (Eq.trans (if_neg c2) (Eq.trans (ob e3) (Eq.trans (if_neg c4) (Eq.trans (if_pos c5) (Eq.trans (if_neg c6) (if_pos c7))))))))) (fun c7 => V_X9_sew_50  hr (jq (P := oP P) kq (Eq.trans (ob e1) (Eq.trans (if_neg c2) (Eq.trans (ob e3) (Eq.trans (if_neg c4) (Eq.trans (if_pos c5) (Eq.trans (if_neg c6) (if_neg c7))))))))))) (fun c5 => V_aload_n (tat ok_X9_sew_0 (i := 11) (q := 22) rfl rfl) 0 rfl rfl <|
    V_getR (tat ok_X9_sew_0 (i := 12) (q := 25) rfl rfl) fk_X9_20 rfl rfl <|
    V_iload_n (tat ok_X9_sew_0 (i := 13) (q := 26) rfl rfl) 1 rfl rfl <|
    (if c18 : a1 < 0 ∨ 2 ≤ Int32.toNatClampNeg a1 then ((jq (P := oP P) kq (Eq.trans (ob e1) (Eq.trans (if_neg c2) (Eq.trans (ob e3) (Eq.trans (if_neg c4) (Eq.trans (if_neg c5) (if_pos c18)))))))).elim else V_iald (tat ok_X9_sew_0 (i := 14) (q := 27) rfl rfl) rfl c18 <|
    V_aload_n (tat ok_X9_sew_0 (i := 15) (q := 28) rfl rfl) 0 rfl rfl <|
    V_getI (tat ok_X9_sew_0 (i := 16) (q := 31) rfl rfl) fk_X9_77 rfl <|
    V_icmp_eq (tat ok_X9_sew_0 (i := 17) (q := 34) rfl rfl) rfl (fun c19 => V_X9_sew_53  hr (jq (P := oP P) kq (Eq.trans (ob e1) (Eq.trans (if_neg c2) (Eq.trans (ob e3) (Eq.trans (if_neg c4) (Eq.trans (if_neg c5) (Eq.trans (if_neg c18) (if_pos c19))))))))) (fun c19 => V_goto (tat ok_X9_sew_0 (i := 18) (q := 37) rfl rfl) rfl <|
    V_X9_sew_50  hr (jq (P := oP P) kq (Eq.trans (ob e1) (Eq.trans (if_neg c2) (Eq.trans (ob e3) (Eq.trans (if_neg c4) (Eq.trans (if_neg c5) (Eq.trans (if_neg c18) (if_neg c19)))))))))))))) (fun c2 => V_iconst (tat ok_X9_sew_0 (i := 3) (q := 8) rfl rfl) ic_m1 <|
    V_iret (tat ok_X9_sew_0 (i := 4) (q := 9) rfl rfl) _ rfl (nar_int _) (hr ((-1), I, L) (jq (P := oP P) kq (Eq.trans (ob e1) (if_pos c2)))) ⟨(Nat.le_of_ble_eq_true rfl), (Nat.le_of_ble_eq_true rfl)⟩))
theorem ct_X9_sew  (I : WI) (L : WL) (a1 : Int32) (a2 : Int32)  {v : (Int32 × WI × WL)} (h : (F_X9_sew I L a1 a2) = some v) : Ct x_X9_sew 3 [.ref 33, .int a1, .int a2] ly0 I L R0 0 0 (some (.int (p1 v)), ly0, (p1 (p2 v)), (p2 (p2 v)), R0) :=
  Ct_of_V mo_X9_sew.1 (Nat.le_of_ble_eq_true rfl) (V_X9_sew (P := fun x => x = v)  (fun _ e => by rw [e]) (by rw [h]; exact rfl))
def F_X9_findName_116_1 (I : WI) (L : WL) (a1 : Int64) (a3 : Int32) (a4 : Int32) (a5 : Int32) : (WI × WL) :=
  (I, L)
theorem V_X9_findName_116_1  {I : WI} {L : WL} {a1 : Int64} {a3 : Int32} {a4 : Int32} {a5 : Int32}  {P : (WI × WL) → Prop} {t : Tg} (hk : ∀ x : (WI × WL), P x → V (zM x_X9_findName 4 0 0 t) 9 [(0, .ref 33), (1, .long a1), (3, .int a3), (4, .int a4), (5, .int (a5 + 1))] [] ly0 (p1 x) (p2 x) R0 0 0) (kk : P (F_X9_findName_116_1 I L a1 a3 a4 a5)) : V (zM x_X9_findName 4 0 0 t) 116 [(0, .ref 33), (1, .long a1), (3, .int a3), (4, .int a4), (5, .int a5)] [] ly0 I L R0 0 0 :=
  V_iinc (v := (a5 + 1)) (lv' := [(5, .int (a5 + 1)), (0, .ref 33), (1, .long a1), (3, .int a3), (4, .int a4)]) (tat ok_X9_findName_1 (i := 19) (q := 119) rfl rfl) 4 rfl (ia ic_1) (Nat.le_of_ble_eq_true rfl) rfl <|
    V_goto (tat ok_X9_findName_1 (i := 20) (q := 122) rfl rfl) rfl <|
    V_pick [1, 2, 3, 4, 0] rfl (hk (I, L) (jx (P := P) kk rfl))
def F_X9_findName_92_1 (I : WI) (L : WL) (a1 : Int64) (a3 : Int32) (a4 : Int32) (a5 : Int32) (a6 : Int32) (a7 : Int32) (a8 : Int64) : (WI × WL) :=
  (F_X9_findName_116_1 (u2 (u2 (u2 I 33 40 a5) 33 41 a6) 33 42 a7) (u2 L 33 39 a8) a1 a3 a4 a5)
theorem V_X9_findName_92_1  {I : WI} {L : WL} {a1 : Int64} {a3 : Int32} {a4 : Int32} {a5 : Int32} {a6 : Int32} {a7 : Int32} {a8 : Int64} {P : (WI × WL) → Prop} {t : Tg} (hk : ∀ x : (WI × WL), P x → V (zM x_X9_findName 4 0 0 t) 9 [(0, .ref 33), (1, .long a1), (3, .int a3), (4, .int a4), (5, .int (a5 + 1))] [] ly0 (p1 x) (p2 x) R0 0 0) (kk : P (F_X9_findName_92_1 I L a1 a3 a4 a5 a6 a7 a8)) : V (zM x_X9_findName 4 0 0 t) 92 [(0, .ref 33), (1, .long a1), (3, .int a3), (4, .int a4), (5, .int a5), (6, .int a6), (7, .int a7), (8, .long a8)] [] ly0 I L R0 0 0 :=
  V_aload_n (tat ok_X9_findName_1 (i := 7) (q := 93) rfl rfl) 0 rfl rfl <|
    V_lload (tat ok_X9_findName_1 (i := 8) (q := 95) rfl rfl) 7 rfl <|
    V_putL (tat ok_X9_findName_1 (i := 9) (q := 98) rfl rfl) fk_X9_320 rfl rfl <|
    V_aload_n (tat ok_X9_findName_1 (i := 10) (q := 99) rfl rfl) 0 rfl rfl <|
    V_iload (tat ok_X9_findName_1 (i := 11) (q := 101) rfl rfl) 4 rfl <|
    V_putI (tat ok_X9_findName_1 (i := 12) (q := 104) rfl rfl) fk_X9_317 rfl rfl <|
    V_aload_n (tat ok_X9_findName_1 (i := 13) (q := 105) rfl rfl) 0 rfl rfl <|
    V_iload (tat ok_X9_findName_1 (i := 14) (q := 107) rfl rfl) 5 rfl <|
    V_putI (tat ok_X9_findName_1 (i := 15) (q := 110) rfl rfl) fk_X9_323 rfl rfl <|
    V_aload_n (tat ok_X9_findName_1 (i := 16) (q := 111) rfl rfl) 0 rfl rfl <|
    V_iload (tat ok_X9_findName_1 (i := 17) (q := 113) rfl rfl) 6 rfl <|
    V_putI (tat ok_X9_findName_1 (i := 18) (q := 116) rfl rfl) fk_X9_326 rfl rfl <|
    V_pick [0, 1, 2, 3, 4] rfl (V_X9_findName_116_1  hk (jx (P := P) kk rfl))
def F_X9_findName_46_1 (I : WI) (L : WL) (a1 : Int64) (a3 : Int32) (a4 : Int32) (a5 : Int32) (a6 : Int32) (s0 : Int32) : (WI × WL) :=
  (if s0 < a6 then (F_X9_findName_116_1 I L a1 a3 a4 a5) else (if (I 33 40) = (-4) then (F_X9_findName_92_1 I L a1 a3 a4 a5 a6 s0 (F_X9_formOf (F_X9_rotated a1 a3 a4 a5) a6 s0)) else (if 0 ≤ (lg_cmp (F_X9_formOf (F_X9_rotated a1 a3 a4 a5) a6 s0) (L 33 39)) then (F_X9_findName_116_1 I L a1 a3 a4 a5) else (F_X9_findName_92_1 I L a1 a3 a4 a5 a6 s0 (F_X9_formOf (F_X9_rotated a1 a3 a4 a5) a6 s0)))))
theorem V_X9_findName_46_1  {I : WI} {L : WL} {a1 : Int64} {a3 : Int32} {a4 : Int32} {a5 : Int32} {a6 : Int32} {s0 : Int32} {P : (WI × WL) → Prop} {t : Tg} (hk : ∀ x : (WI × WL), P x → V (zM x_X9_findName 4 0 0 t) 9 [(0, .ref 33), (1, .long a1), (3, .int a3), (4, .int a4), (5, .int (a5 + 1))] [] ly0 (p1 x) (p2 x) R0 0 0) (kk : P (F_X9_findName_46_1 I L a1 a3 a4 a5 a6 s0)) : V (zM x_X9_findName 4 0 0 t) 46 [(0, .ref 33), (1, .long a1), (3, .int a3), (4, .int a4), (5, .int a5), (6, .int a6)] [.int s0] ly0 I L R0 0 0 :=
  V_istore (lv' := [(7, .int s0), (0, .ref 33), (1, .long a1), (3, .int a3), (4, .int a4), (5, .int a5), (6, .int a6)]) (tat ok_X9_findName_0 (i := 25) (q := 48) rfl rfl) (Nat.le_of_ble_eq_true rfl) rfl <|
    V_lload_n (tat ok_X9_findName_0 (i := 26) (q := 49) rfl rfl) 2 rfl rfl <|
    V_iload_n (tat ok_X9_findName_0 (i := 27) (q := 50) rfl rfl) 3 rfl rfl <|
    V_iload (tat ok_X9_findName_0 (i := 28) (q := 52) rfl rfl) 4 rfl <|
    V_iload (tat ok_X9_findName_0 (i := 29) (q := 54) rfl rfl) 5 rfl <|
    V_cs4 (ct_X9_rotated I L a1 a3 a4 a5 ) mo_X9_rotated (tat ok_X9_findName_0 (i := 30) (q := 57) rfl rfl) ml_X9_310 ⟨(Nat.le_of_ble_eq_true rfl), (Nat.le_of_ble_eq_true rfl)⟩ ⟨(Nat.le_of_ble_eq_true rfl), (Nat.le_of_ble_eq_true rfl)⟩ (Nat.le_of_ble_eq_true rfl) <|
    V_iload (tat ok_X9_findName_0 (i := 31) (q := 59) rfl rfl) 6 rfl <|
    V_iload (tat ok_X9_findName_0 (i := 32) (q := 61) rfl rfl) 0 rfl <|
    V_cs3 (ct_X9_formOf I L (F_X9_rotated a1 a3 a4 a5) a6 s0 ) mo_X9_formOf (tat ok_X9_findName_0 (i := 33) (q := 64) rfl rfl) ml_X9_227 ⟨(Nat.le_of_ble_eq_true rfl), (Nat.le_of_ble_eq_true rfl)⟩ ⟨(Nat.le_of_ble_eq_true rfl), (Nat.le_of_ble_eq_true rfl)⟩ (Nat.le_of_ble_eq_true rfl) <|
    V_lstore (lv' := [(8, .long (F_X9_formOf (F_X9_rotated a1 a3 a4 a5) a6 s0)), (7, .int s0), (0, .ref 33), (1, .long a1), (3, .int a3), (4, .int a4), (5, .int a5), (6, .int a6)]) (tat ok_X9_findName_0 (i := 34) (q := 66) rfl rfl) (Nat.le_of_ble_eq_true rfl) rfl <|
    V_iload (tat ok_X9_findName_0 (i := 35) (q := 68) rfl rfl) 7 rfl <|
    V_iload (tat ok_X9_findName_0 (i := 36) (q := 70) rfl rfl) 1 rfl <|
    V_icmp_gt (tat ok_X9_findName_0 (i := 37) (q := 73) rfl rfl) rfl (fun c3 => V_pick [2, 3, 4, 5, 6] rfl (V_X9_findName_116_1  hk (jx (P := P) kk (if_pos c3)))) (fun c3 => V_aload_n (tat ok_X9_findName_0 (i := 38) (q := 74) rfl rfl) 2 rfl rfl <|
    V_getI (tat ok_X9_findName_0 (i := 39) (q := 77) rfl rfl) fk_X9_317 rfl <|
    V_bipush (tat ok_X9_findName_1 (i := 0) (q := 79) rfl rfl) bp_m4 <|
    V_icmp_eq (tat ok_X9_findName_1 (i := 1) (q := 82) rfl rfl) rfl (fun c4 => V_pick [2, 3, 4, 5, 6, 7, 1, 0] rfl (V_X9_findName_92_1  hk (jx (P := P) kk (Eq.trans (if_neg c3) (if_pos c4))))) (fun c4 => V_lload (tat ok_X9_findName_1 (i := 2) (q := 84) rfl rfl) 0 rfl <|
    V_aload_n (tat ok_X9_findName_1 (i := 3) (q := 85) rfl rfl) 2 rfl rfl <|
    V_getL (tat ok_X9_findName_1 (i := 4) (q := 88) rfl rfl) fk_X9_320 rfl <|
    V_lcmp (tat ok_X9_findName_1 (i := 5) (q := 89) rfl rfl) <|
    V_if_ge (tat ok_X9_findName_1 (i := 6) (q := 92) rfl rfl) rfl (fun c5 => V_pick [2, 3, 4, 5, 6] rfl (V_X9_findName_116_1  hk (jx (P := P) kk (Eq.trans (if_neg c3) (Eq.trans (if_neg c4) (if_pos c5)))))) (fun c5 => V_pick [2, 3, 4, 5, 6, 7, 1, 0] rfl (V_X9_findName_92_1  hk (jx (P := P) kk (Eq.trans (if_neg c3) (Eq.trans (if_neg c4) (if_neg c5))))))))
def F_X9_findName_30_1 (I : WI) (L : WL) (a1 : Int64) (a3 : Int32) (a4 : Int32) (a5 : Int32) (s0 : Int32) : (WI × WL) :=
  (if (a5 - a5 / 2 * 2) = 1 then (F_X9_findName_46_1 I L a1 a3 a4 a5 s0 a3) else (F_X9_findName_46_1 I L a1 a3 a4 a5 s0 a4))
theorem V_X9_findName_30_1  {I : WI} {L : WL} {a1 : Int64} {a3 : Int32} {a4 : Int32} {a5 : Int32} {s0 : Int32} {P : (WI × WL) → Prop} {t : Tg} (hk : ∀ x : (WI × WL), P x → V (zM x_X9_findName 4 0 0 t) 9 [(0, .ref 33), (1, .long a1), (3, .int a3), (4, .int a4), (5, .int (a5 + 1))] [] ly0 (p1 x) (p2 x) R0 0 0) (kk : P (F_X9_findName_30_1 I L a1 a3 a4 a5 s0)) : V (zM x_X9_findName 4 0 0 t) 30 [(0, .ref 33), (1, .long a1), (3, .int a3), (4, .int a4), (5, .int a5)] [.int s0] ly0 I L R0 0 0 :=
  V_istore (lv' := [(6, .int s0), (0, .ref 33), (1, .long a1), (3, .int a3), (4, .int a4), (5, .int a5)]) (tat ok_X9_findName_0 (i := 16) (q := 32) rfl rfl) (Nat.le_of_ble_eq_true rfl) rfl <|
    V_iload (tat ok_X9_findName_0 (i := 17) (q := 34) rfl rfl) 5 rfl <|
    V_iconst (tat ok_X9_findName_0 (i := 18) (q := 35) rfl rfl) ic_2 <|
    V_irem (tat ok_X9_findName_0 (i := 19) (q := 36) rfl rfl) (by decide) <|
    V_iconst (tat ok_X9_findName_0 (i := 20) (q := 37) rfl rfl) ic_1 <|
    V_icmp_ne (tat ok_X9_findName_0 (i := 21) (q := 40) rfl rfl) rfl (fun c2 => V_iload (tat ok_X9_findName_0 (i := 24) (q := 46) rfl rfl) 4 rfl <|
    V_pick [1, 2, 3, 4, 5, 0] rfl (V_X9_findName_46_1  hk (jx (P := P) kk (if_neg c2)))) (fun c2 => V_iload_n (tat ok_X9_findName_0 (i := 22) (q := 41) rfl rfl) 3 rfl rfl <|
    V_goto (tat ok_X9_findName_0 (i := 23) (q := 44) rfl rfl) rfl <|
    V_pick [1, 2, 3, 4, 5, 0] rfl (V_X9_findName_46_1  hk (jx (P := P) kk (if_pos c2))))
def F_X9_findName_16_1 (I : WI) (L : WL) (a1 : Int64) (a3 : Int32) (a4 : Int32) (a5 : Int32) : (WI × WL) :=
  (if (a5 - a5 / 2 * 2) = 1 then (F_X9_findName_30_1 I L a1 a3 a4 a5 a4) else (F_X9_findName_30_1 I L a1 a3 a4 a5 a3))
theorem V_X9_findName_16_1  {I : WI} {L : WL} {a1 : Int64} {a3 : Int32} {a4 : Int32} {a5 : Int32}  {P : (WI × WL) → Prop} {t : Tg} (hk : ∀ x : (WI × WL), P x → V (zM x_X9_findName 4 0 0 t) 9 [(0, .ref 33), (1, .long a1), (3, .int a3), (4, .int a4), (5, .int (a5 + 1))] [] ly0 (p1 x) (p2 x) R0 0 0) (kk : P (F_X9_findName_16_1 I L a1 a3 a4 a5)) : V (zM x_X9_findName 4 0 0 t) 16 [(0, .ref 33), (1, .long a1), (3, .int a3), (4, .int a4), (5, .int a5)] [] ly0 I L R0 0 0 :=
  V_iload (tat ok_X9_findName_0 (i := 8) (q := 18) rfl rfl) 4 rfl <|
    V_iconst (tat ok_X9_findName_0 (i := 9) (q := 19) rfl rfl) ic_2 <|
    V_irem (tat ok_X9_findName_0 (i := 10) (q := 20) rfl rfl) (by decide) <|
    V_iconst (tat ok_X9_findName_0 (i := 11) (q := 21) rfl rfl) ic_1 <|
    V_icmp_ne (tat ok_X9_findName_0 (i := 12) (q := 24) rfl rfl) rfl (fun c1 => V_iload_n (tat ok_X9_findName_0 (i := 15) (q := 30) rfl rfl) 2 rfl rfl <|
    V_X9_findName_30_1  hk (jx (P := P) kk (if_neg c1))) (fun c1 => V_iload (tat ok_X9_findName_0 (i := 13) (q := 26) rfl rfl) 3 rfl <|
    V_goto (tat ok_X9_findName_0 (i := 14) (q := 29) rfl rfl) rfl <|
    V_X9_findName_30_1  hk (jx (P := P) kk (if_pos c1)))
def F_X9_findName_122 (I : WI) (L : WL) (a1 : Int64) (a3 : Int32) (a4 : Int32) : (WI × WL) :=
  (I, L)
theorem V_X9_findName_122  {I : WI} {L : WL} {a1 : Int64} {a3 : Int32} {a4 : Int32}  {P : (WI × WL) → Prop} {t : Tg} (hr : ∀ v, P v → t = (none, ly0, (p1 v), (p2 v), R0)) (kk : P (F_X9_findName_122 I L a1 a3 a4)) : V (zM x_X9_findName 4 0 0 t) 122 [(0, .ref 33), (1, .long a1), (3, .int a3), (4, .int a4)] [] ly0 I L R0 0 0 :=
  V_vret (tat ok_X9_findName_1 (i := 21) (q := 123) rfl rfl) rfl (hr (I, L) (jx (P := P) kk rfl)) ⟨(Nat.le_of_ble_eq_true rfl), (Nat.le_of_ble_eq_true rfl)⟩
def F_X9_findName_9 (I : WI) (L : WL) (a1 : Int64) (a3 : Int32) (a4 : Int32) (a5 : Int32) : (WI × WL) :=
  (fun q : Int32 × (WI × WL) => (F_X9_findName_122 (p1 (p2 q)) (p2 (p2 q)) a1 a3 a4)) (fr0 (fun i x => (F_X9_findName_16_1 (p1 x) (p2 x) a1 a3 a4 i)) 8 (fu a5 8) a5 (I, L))
theorem V_X9_findName_9  {I : WI} {L : WL} {a1 : Int64} {a3 : Int32} {a4 : Int32} {a5 : Int32} {P : (WI × WL) → Prop} {t : Tg} (hb5 : bz a5 = a5) (hr : ∀ v, P v → t = (none, ly0, (p1 v), (p2 v), R0)) (kk : P (F_X9_findName_9 I L a1 a3 a4 a5)) : V (zM x_X9_findName 4 0 0 t) 9 [(0, .ref 33), (1, .long a1), (3, .int a3), (4, .int a4), (5, .int a5)] [] ly0 I L R0 0 0 :=
  V_fr0 (fun i x => (F_X9_findName_16_1 (p1 x) (p2 x) a1 a3 a4 i)) 8 (fun i x => V (zM x_X9_findName 4 0 0 t) 9 [(0, .ref 33), (1, .long a1), (3, .int a3), (4, .int a4), (5, .int i)] [] ly0 (p1 x) (p2 x) R0 0 0) (fun i x => P ((F_X9_findName_122 (p1 x) (p2 x) a1 a3 a4))) (c := a5) (s := (I, L)) (fun i x kx kb => V_iload (tat ok_X9_findName_0 (i := 5) (q := 11) rfl rfl) 4 rfl <|
    V_bipush (tat ok_X9_findName_0 (i := 6) (q := 13) rfl rfl) bp_8 <|
    V_icmp_ge (tat ok_X9_findName_0 (i := 7) (q := 16) rfl rfl) rfl (fun c0 => V_pick [0, 1, 2, 3] rfl (V_X9_findName_122  hr (kx c0))) (fun c0 => V_X9_findName_16_1 (P := (fun x => (fun i x => V (zM x_X9_findName 4 0 0 t) 9 [(0, .ref 33), (1, .long a1), (3, .int a3), (4, .int a4), (5, .int i)] [] ly0 (p1 x) (p2 x) R0 0 0) (i + 1) x))  (fun _ e => e) (kb c0))) kk
def F_X9_findName (I : WI) (L : WL) (a1 : Int64) (a3 : Int32) (a4 : Int32) : (WI × WL) :=
  (F_X9_findName_9 (u2 I 33 40 (-4)) L a1 a3 a4 0)
theorem V_X9_findName  {I : WI} {L : WL} {a1 : Int64} {a3 : Int32} {a4 : Int32}  {P : (WI × WL) → Prop} {t : Tg} (hr : ∀ v, P v → t = (none, ly0, (p1 v), (p2 v), R0)) (kk : P (F_X9_findName I L a1 a3 a4)) : V (zM x_X9_findName 4 0 0 t) 0 [(0, .ref 33), (1, .long a1), (3, .int a3), (4, .int a4)] [] ly0 I L R0 0 0 :=
  V_aload_n (tat ok_X9_findName_0 (i := 0) (q := 1) rfl rfl) 0 rfl rfl <|
    V_bipush (tat ok_X9_findName_0 (i := 1) (q := 3) rfl rfl) bp_m4 <|
    V_putI (tat ok_X9_findName_0 (i := 2) (q := 6) rfl rfl) fk_X9_317 rfl rfl <|
    V_iconst (tat ok_X9_findName_0 (i := 3) (q := 7) rfl rfl) ic_0 <|
    V_istore (lv' := [(5, .int 0), (0, .ref 33), (1, .long a1), (3, .int a3), (4, .int a4)]) (tat ok_X9_findName_0 (i := 4) (q := 9) rfl rfl) (Nat.le_of_ble_eq_true rfl) rfl <|
    V_pick [1, 2, 3, 4, 0] rfl (V_X9_findName_9 rfl hr (jx (P := P) kk rfl))
theorem ct_X9_findName  (I : WI) (L : WL) (a1 : Int64) (a3 : Int32) (a4 : Int32)  : Ct x_X9_findName 4 [.ref 33, .long a1, .int a3, .int a4] ly0 I L R0 0 0 (none, ly0, (p1 (F_X9_findName I L a1 a3 a4)), (p2 (F_X9_findName I L a1 a3 a4)), R0) :=
  Ct_of_V mo_X9_findName.1 (Nat.le_of_ble_eq_true rfl) (V_X9_findName (P := fun x => x = (F_X9_findName I L a1 a3 a4))  (fun _ e => by rw [e]) rfl)
def F_X9_name_46 (I : WI) (L : WL) (a1 : Int32) (s0 : Int64) : (Int64 × WI × WL) :=
  (s0, I, L)
theorem V_X9_name_46  {I : WI} {L : WL} {a1 : Int32} {s0 : Int64} {P : (Int64 × WI × WL) → Prop} {t : Tg} (hr : ∀ v, P v → t = (some (.long (p1 v)), ly0, (p1 (p2 v)), (p2 (p2 v)), R0)) (kk : P (F_X9_name_46 I L a1 s0)) : V (zM x_X9_name 5 0 0 t) 46 [(0, .ref 33), (1, .int a1)] [.long s0] ly0 I L R0 0 0 :=
  V_lret (tat ok_X9_name_0 (i := 24) (q := 47) rfl rfl) rfl (hr (s0, I, L) (jx (P := P) kk rfl)) ⟨(Nat.le_of_ble_eq_true rfl), (Nat.le_of_ble_eq_true rfl)⟩
def F_X9_name (I : WI) (L : WL) (a1 : Int32) : (Int64 × WI × WL) :=
  (if (F_X9_in (Int32.toInt64 a1) 0 1) = 0 then ((-1), I, L) else (if a1 = 0 then (F_X9_name_46 (p1 (F_X9_findName I L (L 33 2) (I 33 0) (I 33 1))) (p2 (F_X9_findName I L (L 33 2) (I 33 0) (I 33 1))) a1 ((p2 (F_X9_findName I L (L 33 2) (I 33 0) (I 33 1))) 33 39)) else (F_X9_name_46 (p1 (F_X9_findName I L (L 33 2) (I 33 0) (I 33 1))) (p2 (F_X9_findName I L (L 33 2) (I 33 0) (I 33 1))) a1 (Int32.toInt64 ((p1 (F_X9_findName I L (L 33 2) (I 33 0) (I 33 1))) 33 40)))))
theorem V_X9_name  {I : WI} {L : WL} {a1 : Int32}  {P : (Int64 × WI × WL) → Prop} {t : Tg} (hr : ∀ v, P v → t = (some (.long (p1 v)), ly0, (p1 (p2 v)), (p2 (p2 v)), R0)) (kk : P (F_X9_name I L a1)) : V (zM x_X9_name 5 0 0 t) 0 [(0, .ref 33), (1, .int a1)] [] ly0 I L R0 0 0 :=
  V_iload_n (tat ok_X9_name_0 (i := 0) (q := 1) rfl rfl) 1 rfl rfl <|
    V_i2l (tat ok_X9_name_0 (i := 1) (q := 2) rfl rfl) <|
    V_lconst (v := 0) (tat ok_X9_name_0 (i := 2) (q := 3) rfl rfl) rfl <|
    V_lconst (v := 1) (tat ok_X9_name_0 (i := 3) (q := 4) rfl rfl) rfl <|
    V_cs3 (ct_X9_in I L (Int32.toInt64 a1) 0 1 ) mo_X9_in (tat ok_X9_name_0 (i := 4) (q := 7) rfl rfl) ml_X9_97 ⟨(Nat.le_of_ble_eq_true rfl), (Nat.le_of_ble_eq_true rfl)⟩ ⟨(Nat.le_of_ble_eq_true rfl), (Nat.le_of_ble_eq_true rfl)⟩ (Nat.le_of_ble_eq_true rfl) <|
    V_if_ne (tat ok_X9_name_0 (i := 5) (q := 10) rfl rfl) rfl (fun c1 => V_aload_n (tat ok_X9_name_0 (i := 8) (q := 15) rfl rfl) 0 rfl rfl <|
    V_aload_n (tat ok_X9_name_0 (i := 9) (q := 16) rfl rfl) 0 rfl rfl <|
    V_getL (tat ok_X9_name_0 (i := 10) (q := 19) rfl rfl) fk_X9_80 rfl <|
    V_aload_n (tat ok_X9_name_0 (i := 11) (q := 20) rfl rfl) 0 rfl rfl <|
    V_getI (tat ok_X9_name_0 (i := 12) (q := 23) rfl rfl) fk_X9_74 rfl <|
    V_aload_n (tat ok_X9_name_0 (i := 13) (q := 24) rfl rfl) 0 rfl rfl <|
    V_getI (tat ok_X9_name_0 (i := 14) (q := 27) rfl rfl) fk_X9_77 rfl <|
    V_cv3v (ct_X9_findName I L (L 33 2) (I 33 0) (I 33 1) ) mo_X9_findName (tat ok_X9_name_0 (i := 15) (q := 30) rfl rfl) ml_X9_329 rfl ⟨by decide, _, rfl, rfl⟩ ⟨(Nat.le_of_ble_eq_true rfl), (Nat.le_of_ble_eq_true rfl)⟩ ⟨(Nat.le_of_ble_eq_true rfl), (Nat.le_of_ble_eq_true rfl)⟩ (Nat.le_of_ble_eq_true rfl) <|
    V_iload_n (tat ok_X9_name_0 (i := 16) (q := 31) rfl rfl) 1 rfl rfl <|
    V_if_ne (tat ok_X9_name_0 (i := 17) (q := 34) rfl rfl) rfl (fun c2 => V_aload_n (tat ok_X9_name_0 (i := 21) (q := 42) rfl rfl) 0 rfl rfl <|
    V_getI (tat ok_X9_name_0 (i := 22) (q := 45) rfl rfl) fk_X9_317 rfl <|
    V_i2l (tat ok_X9_name_0 (i := 23) (q := 46) rfl rfl) <|
    V_X9_name_46  hr (jx (P := P) kk (Eq.trans (if_neg c1) (if_neg c2)))) (fun c2 => V_aload_n (tat ok_X9_name_0 (i := 18) (q := 35) rfl rfl) 0 rfl rfl <|
    V_getL (tat ok_X9_name_0 (i := 19) (q := 38) rfl rfl) fk_X9_320 rfl <|
    V_goto (tat ok_X9_name_0 (i := 20) (q := 41) rfl rfl) rfl <|
    V_X9_name_46  hr (jx (P := P) kk (Eq.trans (if_neg c1) (if_pos c2))))) (fun c1 => V_ldc2 (tat ok_X9_name_0 (i := 6) (q := 13) rfl rfl) (gw_in kl_X9_204 rfl) <|
    V_lret (tat ok_X9_name_0 (i := 7) (q := 14) rfl rfl) rfl (hr ((-1), I, L) (jx (P := P) kk (if_pos c1))) ⟨(Nat.le_of_ble_eq_true rfl), (Nat.le_of_ble_eq_true rfl)⟩)
theorem ct_X9_name  (I : WI) (L : WL) (a1 : Int32)  : Ct x_X9_name 5 [.ref 33, .int a1] ly0 I L R0 0 0 (some (.long (p1 (F_X9_name I L a1))), ly0, (p1 (p2 (F_X9_name I L a1))), (p2 (p2 (F_X9_name I L a1))), R0) :=
  Ct_of_V mo_X9_name.1 (Nat.le_of_ble_eq_true rfl) (V_X9_name (P := fun x => x = (F_X9_name I L a1))  (fun _ e => by rw [e]) rfl)
def F_X9_cousin_107 (I : WI) (L : WL) (a1 : Int32) (s0 : Int32) : Option (Int32 × WI × WL) :=
  some ((F_X9_flag s0), I, L)
theorem V_X9_cousin_107  {I : WI} {L : WL} {a1 : Int32} {s0 : Int32} {P : (Int32 × WI × WL) → Prop} {t : Tg} (hs0 : bz s0 = s0) (hr : ∀ v, P v → t = (some (.int (p1 v)), ly0, (p1 (p2 v)), (p2 (p2 v)), R0)) : oP P (F_X9_cousin_107 I L a1 s0) → V (zM x_X9_cousin 5 0 0 t) 107 [(0, .ref 33), (1, .int a1)] [.int s0] ly0 I L R0 0 0 :=
  fun _ =>
  have kq : (oP P (F_X9_cousin_107 I L a1 s0)) ∧ True := ⟨by assumption, trivial⟩
  V_cs1 (ct_X9_flag I L s0 ) mo_X9_flag (tat ok_X9_cousin_1 (i := 18) (q := 110) rfl rfl) ml_X9_200 ⟨(Nat.le_of_ble_eq_true rfl), (Nat.le_of_ble_eq_true rfl)⟩ ⟨(Nat.le_of_ble_eq_true rfl), (Nat.le_of_ble_eq_true rfl)⟩ (Nat.le_of_ble_eq_true rfl) <|
    V_iret (tat ok_X9_cousin_1 (i := 19) (q := 111) rfl rfl) _ rfl (nar_int _) (hr ((F_X9_flag s0), I, L) (jq (P := oP P) kq rfl)) ⟨(Nat.le_of_ble_eq_true rfl), (Nat.le_of_ble_eq_true rfl)⟩
def F_X9_cousin_106 (I : WI) (L : WL) (a1 : Int32) : Option (Int32 × WI × WL) :=
  (F_X9_cousin_107 I L a1 0)
theorem V_X9_cousin_106  {I : WI} {L : WL} {a1 : Int32}  {P : (Int32 × WI × WL) → Prop} {t : Tg} (hr : ∀ v, P v → t = (some (.int (p1 v)), ly0, (p1 (p2 v)), (p2 (p2 v)), R0)) : oP P (F_X9_cousin_106 I L a1) → V (zM x_X9_cousin 5 0 0 t) 106 [(0, .ref 33), (1, .int a1)] [] ly0 I L R0 0 0 :=
  fun _ =>
  have kq : (oP P (F_X9_cousin_106 I L a1)) ∧ True := ⟨by assumption, trivial⟩
  V_iconst (tat ok_X9_cousin_1 (i := 17) (q := 107) rfl rfl) ic_0 <|
    V_X9_cousin_107 rfl hr (jq (P := oP P) kq rfl)
def F_X9_cousin (I : WI) (L : WL) (a1 : Int32) : Option (Int32 × WI × WL) :=
  (Option.bind (F_X9_isImage a1) (fun v1 => (if v1 = 0 then some ((-1), I, L) else (Option.bind (F_X9_isKept I a1) (fun v3 => (if v3 = 0 then some ((-2), I, L) else (if a1 < 0 ∨ 2 ≤ Int32.toNatClampNeg a1 then none else (if a1 < 0 ∨ 2 ≤ Int32.toNatClampNeg a1 then none else (if a1 < 0 ∨ 2 ≤ Int32.toNatClampNeg a1 then none else (if (lg_cmp ((p2 (F_X9_findName I L (L 35 (Int32.toNatClampNeg a1)) (I 36 (Int32.toNatClampNeg a1)) (I 37 (Int32.toNatClampNeg a1)))) 33 39) ((p2 (F_X9_findName (p1 (F_X9_findName I L (L 35 (Int32.toNatClampNeg a1)) (I 36 (Int32.toNatClampNeg a1)) (I 37 (Int32.toNatClampNeg a1)))) (p2 (F_X9_findName I L (L 35 (Int32.toNatClampNeg a1)) (I 36 (Int32.toNatClampNeg a1)) (I 37 (Int32.toNatClampNeg a1)))) ((p2 (F_X9_findName I L (L 35 (Int32.toNatClampNeg a1)) (I 36 (Int32.toNatClampNeg a1)) (I 37 (Int32.toNatClampNeg a1)))) 33 2) ((p1 (F_X9_findName I L (L 35 (Int32.toNatClampNeg a1)) (I 36 (Int32.toNatClampNeg a1)) (I 37 (Int32.toNatClampNeg a1)))) 33 0) ((p1 (F_X9_findName I L (L 35 (Int32.toNatClampNeg a1)) (I 36 (Int32.toNatClampNeg a1)) (I 37 (Int32.toNatClampNeg a1)))) 33 1))) 33 39)) = 0 then (if ((p1 (F_X9_findName I L (L 35 (Int32.toNatClampNeg a1)) (I 36 (Int32.toNatClampNeg a1)) (I 37 (Int32.toNatClampNeg a1)))) 33 41) = ((p1 (F_X9_findName (p1 (F_X9_findName I L (L 35 (Int32.toNatClampNeg a1)) (I 36 (Int32.toNatClampNeg a1)) (I 37 (Int32.toNatClampNeg a1)))) (p2 (F_X9_findName I L (L 35 (Int32.toNatClampNeg a1)) (I 36 (Int32.toNatClampNeg a1)) (I 37 (Int32.toNatClampNeg a1)))) ((p2 (F_X9_findName I L (L 35 (Int32.toNatClampNeg a1)) (I 36 (Int32.toNatClampNeg a1)) (I 37 (Int32.toNatClampNeg a1)))) 33 2) ((p1 (F_X9_findName I L (L 35 (Int32.toNatClampNeg a1)) (I 36 (Int32.toNatClampNeg a1)) (I 37 (Int32.toNatClampNeg a1)))) 33 0) ((p1 (F_X9_findName I L (L 35 (Int32.toNatClampNeg a1)) (I 36 (Int32.toNatClampNeg a1)) (I 37 (Int32.toNatClampNeg a1)))) 33 1))) 33 41) then (if ((p1 (F_X9_findName I L (L 35 (Int32.toNatClampNeg a1)) (I 36 (Int32.toNatClampNeg a1)) (I 37 (Int32.toNatClampNeg a1)))) 33 42) = ((p1 (F_X9_findName (p1 (F_X9_findName I L (L 35 (Int32.toNatClampNeg a1)) (I 36 (Int32.toNatClampNeg a1)) (I 37 (Int32.toNatClampNeg a1)))) (p2 (F_X9_findName I L (L 35 (Int32.toNatClampNeg a1)) (I 36 (Int32.toNatClampNeg a1)) (I 37 (Int32.toNatClampNeg a1)))) ((p2 (F_X9_findName I L (L 35 (Int32.toNatClampNeg a1)) (I 36 (Int32.toNatClampNeg a1)) (I 37 (Int32.toNatClampNeg a1)))) 33 2) ((p1 (F_X9_findName I L (L 35 (Int32.toNatClampNeg a1)) (I 36 (Int32.toNatClampNeg a1)) (I 37 (Int32.toNatClampNeg a1)))) 33 0) ((p1 (F_X9_findName I L (L 35 (Int32.toNatClampNeg a1)) (I 36 (Int32.toNatClampNeg a1)) (I 37 (Int32.toNatClampNeg a1)))) 33 1))) 33 42) then (F_X9_cousin_107 (p1 (F_X9_findName (p1 (F_X9_findName I L (L 35 (Int32.toNatClampNeg a1)) (I 36 (Int32.toNatClampNeg a1)) (I 37 (Int32.toNatClampNeg a1)))) (p2 (F_X9_findName I L (L 35 (Int32.toNatClampNeg a1)) (I 36 (Int32.toNatClampNeg a1)) (I 37 (Int32.toNatClampNeg a1)))) ((p2 (F_X9_findName I L (L 35 (Int32.toNatClampNeg a1)) (I 36 (Int32.toNatClampNeg a1)) (I 37 (Int32.toNatClampNeg a1)))) 33 2) ((p1 (F_X9_findName I L (L 35 (Int32.toNatClampNeg a1)) (I 36 (Int32.toNatClampNeg a1)) (I 37 (Int32.toNatClampNeg a1)))) 33 0) ((p1 (F_X9_findName I L (L 35 (Int32.toNatClampNeg a1)) (I 36 (Int32.toNatClampNeg a1)) (I 37 (Int32.toNatClampNeg a1)))) 33 1))) (p2 (F_X9_findName (p1 (F_X9_findName I L (L 35 (Int32.toNatClampNeg a1)) (I 36 (Int32.toNatClampNeg a1)) (I 37 (Int32.toNatClampNeg a1)))) (p2 (F_X9_findName I L (L 35 (Int32.toNatClampNeg a1)) (I 36 (Int32.toNatClampNeg a1)) (I 37 (Int32.toNatClampNeg a1)))) ((p2 (F_X9_findName I L (L 35 (Int32.toNatClampNeg a1)) (I 36 (Int32.toNatClampNeg a1)) (I 37 (Int32.toNatClampNeg a1)))) 33 2) ((p1 (F_X9_findName I L (L 35 (Int32.toNatClampNeg a1)) (I 36 (Int32.toNatClampNeg a1)) (I 37 (Int32.toNatClampNeg a1)))) 33 0) ((p1 (F_X9_findName I L (L 35 (Int32.toNatClampNeg a1)) (I 36 (Int32.toNatClampNeg a1)) (I 37 (Int32.toNatClampNeg a1)))) 33 1))) a1 1) else (F_X9_cousin_106 (p1 (F_X9_findName (p1 (F_X9_findName I L (L 35 (Int32.toNatClampNeg a1)) (I 36 (Int32.toNatClampNeg a1)) (I 37 (Int32.toNatClampNeg a1)))) (p2 (F_X9_findName I L (L 35 (Int32.toNatClampNeg a1)) (I 36 (Int32.toNatClampNeg a1)) (I 37 (Int32.toNatClampNeg a1)))) ((p2 (F_X9_findName I L (L 35 (Int32.toNatClampNeg a1)) (I 36 (Int32.toNatClampNeg a1)) (I 37 (Int32.toNatClampNeg a1)))) 33 2) ((p1 (F_X9_findName I L (L 35 (Int32.toNatClampNeg a1)) (I 36 (Int32.toNatClampNeg a1)) (I 37 (Int32.toNatClampNeg a1)))) 33 0) ((p1 (F_X9_findName I L (L 35 (Int32.toNatClampNeg a1)) (I 36 (Int32.toNatClampNeg a1)) (I 37 (Int32.toNatClampNeg a1)))) 33 1))) (p2 (F_X9_findName (p1 (F_X9_findName I L (L 35 (Int32.toNatClampNeg a1)) (I 36 (Int32.toNatClampNeg a1)) (I 37 (Int32.toNatClampNeg a1)))) (p2 (F_X9_findName I L (L 35 (Int32.toNatClampNeg a1)) (I 36 (Int32.toNatClampNeg a1)) (I 37 (Int32.toNatClampNeg a1)))) ((p2 (F_X9_findName I L (L 35 (Int32.toNatClampNeg a1)) (I 36 (Int32.toNatClampNeg a1)) (I 37 (Int32.toNatClampNeg a1)))) 33 2) ((p1 (F_X9_findName I L (L 35 (Int32.toNatClampNeg a1)) (I 36 (Int32.toNatClampNeg a1)) (I 37 (Int32.toNatClampNeg a1)))) 33 0) ((p1 (F_X9_findName I L (L 35 (Int32.toNatClampNeg a1)) (I 36 (Int32.toNatClampNeg a1)) (I 37 (Int32.toNatClampNeg a1)))) 33 1))) a1)) else (F_X9_cousin_106 (p1 (F_X9_findName (p1 (F_X9_findName I L (L 35 (Int32.toNatClampNeg a1)) (I 36 (Int32.toNatClampNeg a1)) (I 37 (Int32.toNatClampNeg a1)))) (p2 (F_X9_findName I L (L 35 (Int32.toNatClampNeg a1)) (I 36 (Int32.toNatClampNeg a1)) (I 37 (Int32.toNatClampNeg a1)))) ((p2 (F_X9_findName I L (L 35 (Int32.toNatClampNeg a1)) (I 36 (Int32.toNatClampNeg a1)) (I 37 (Int32.toNatClampNeg a1)))) 33 2) ((p1 (F_X9_findName I L (L 35 (Int32.toNatClampNeg a1)) (I 36 (Int32.toNatClampNeg a1)) (I 37 (Int32.toNatClampNeg a1)))) 33 0) ((p1 (F_X9_findName I L (L 35 (Int32.toNatClampNeg a1)) (I 36 (Int32.toNatClampNeg a1)) (I 37 (Int32.toNatClampNeg a1)))) 33 1))) (p2 (F_X9_findName (p1 (F_X9_findName I L (L 35 (Int32.toNatClampNeg a1)) (I 36 (Int32.toNatClampNeg a1)) (I 37 (Int32.toNatClampNeg a1)))) (p2 (F_X9_findName I L (L 35 (Int32.toNatClampNeg a1)) (I 36 (Int32.toNatClampNeg a1)) (I 37 (Int32.toNatClampNeg a1)))) ((p2 (F_X9_findName I L (L 35 (Int32.toNatClampNeg a1)) (I 36 (Int32.toNatClampNeg a1)) (I 37 (Int32.toNatClampNeg a1)))) 33 2) ((p1 (F_X9_findName I L (L 35 (Int32.toNatClampNeg a1)) (I 36 (Int32.toNatClampNeg a1)) (I 37 (Int32.toNatClampNeg a1)))) 33 0) ((p1 (F_X9_findName I L (L 35 (Int32.toNatClampNeg a1)) (I 36 (Int32.toNatClampNeg a1)) (I 37 (Int32.toNatClampNeg a1)))) 33 1))) a1)) else (F_X9_cousin_106 (p1 (F_X9_findName (p1 (F_X9_findName I L (L 35 (Int32.toNatClampNeg a1)) (I 36 (Int32.toNatClampNeg a1)) (I 37 (Int32.toNatClampNeg a1)))) (p2 (F_X9_findName I L (L 35 (Int32.toNatClampNeg a1)) (I 36 (Int32.toNatClampNeg a1)) (I 37 (Int32.toNatClampNeg a1)))) ((p2 (F_X9_findName I L (L 35 (Int32.toNatClampNeg a1)) (I 36 (Int32.toNatClampNeg a1)) (I 37 (Int32.toNatClampNeg a1)))) 33 2) ((p1 (F_X9_findName I L (L 35 (Int32.toNatClampNeg a1)) (I 36 (Int32.toNatClampNeg a1)) (I 37 (Int32.toNatClampNeg a1)))) 33 0) ((p1 (F_X9_findName I L (L 35 (Int32.toNatClampNeg a1)) (I 36 (Int32.toNatClampNeg a1)) (I 37 (Int32.toNatClampNeg a1)))) 33 1))) (p2 (F_X9_findName (p1 (F_X9_findName I L (L 35 (Int32.toNatClampNeg a1)) (I 36 (Int32.toNatClampNeg a1)) (I 37 (Int32.toNatClampNeg a1)))) (p2 (F_X9_findName I L (L 35 (Int32.toNatClampNeg a1)) (I 36 (Int32.toNatClampNeg a1)) (I 37 (Int32.toNatClampNeg a1)))) ((p2 (F_X9_findName I L (L 35 (Int32.toNatClampNeg a1)) (I 36 (Int32.toNatClampNeg a1)) (I 37 (Int32.toNatClampNeg a1)))) 33 2) ((p1 (F_X9_findName I L (L 35 (Int32.toNatClampNeg a1)) (I 36 (Int32.toNatClampNeg a1)) (I 37 (Int32.toNatClampNeg a1)))) 33 0) ((p1 (F_X9_findName I L (L 35 (Int32.toNatClampNeg a1)) (I 36 (Int32.toNatClampNeg a1)) (I 37 (Int32.toNatClampNeg a1)))) 33 1))) a1)))))))))))
theorem V_X9_cousin  {I : WI} {L : WL} {a1 : Int32}  {P : (Int32 × WI × WL) → Prop} {t : Tg} (hr : ∀ v, P v → t = (some (.int (p1 v)), ly0, (p1 (p2 v)), (p2 (p2 v)), R0)) : oP P (F_X9_cousin I L a1) → V (zM x_X9_cousin 5 0 0 t) 0 [(0, .ref 33), (1, .int a1)] [] ly0 I L R0 0 0 :=
  fun _ =>
  have kq : (oP P (F_X9_cousin I L a1)) ∧ True := ⟨by assumption, trivial⟩
  V_iload_n (tat ok_X9_cousin_0 (i := 0) (q := 1) rfl rfl) 1 rfl rfl <|
    oP_case (jq (P := oP P) kq rfl) (fun v1 e1 _ => V_cs1 (ct_X9_isImage I L a1  e1) mo_X9_isImage (tat ok_X9_cousin_0 (i := 1) (q := 4) rfl rfl) ml_X9_235 ⟨(Nat.le_of_ble_eq_true rfl), (Nat.le_of_ble_eq_true rfl)⟩ ⟨(Nat.le_of_ble_eq_true rfl), (Nat.le_of_ble_eq_true rfl)⟩ (Nat.le_of_ble_eq_true rfl) <|
    V_if_ne (tat ok_X9_cousin_0 (i := 2) (q := 7) rfl rfl) rfl (fun c2 => V_aload_n (tat ok_X9_cousin_0 (i := 5) (q := 10) rfl rfl) 0 rfl rfl <|
    V_iload_n (tat ok_X9_cousin_0 (i := 6) (q := 11) rfl rfl) 1 rfl rfl <|
    oP_case (jq (P := oP P) kq (Eq.trans (ob e1) (if_neg c2))) (fun v3 e3 _ => V_cv1 (ct_X9_isKept I L a1  e3) mo_X9_isKept (tat ok_X9_cousin_0 (i := 7) (q := 14) rfl rfl) ml_X9_239 rfl ⟨by decide, _, rfl, rfl⟩ ⟨(Nat.le_of_ble_eq_true rfl), (Nat.le_of_ble_eq_true rfl)⟩ ⟨(Nat.le_of_ble_eq_true rfl), (Nat.le_of_ble_eq_true rfl)⟩ (Nat.le_of_ble_eq_true rfl) <|
    V_if_ne (tat ok_X9_cousin_0 (i := 8) (q := 17) rfl rfl) rfl (fun c4 => V_aload_n (tat ok_X9_cousin_0 (i := 11) (q := 21) rfl rfl) 0 rfl rfl <|
    V_aload_n (tat ok_X9_cousin_0 (i := 12) (q := 22) rfl rfl) 0 rfl rfl <|
    V_getR (tat ok_X9_cousin_0 (i := 13) (q := 25) rfl rfl) fk_X9_13 rfl rfl <|
    V_iload_n (tat ok_X9_cousin_0 (i := 14) (q := 26) rfl rfl) 1 rfl rfl <|
    (if c5 : a1 < 0 ∨ 2 ≤ Int32.toNatClampNeg a1 then ((jq (P := oP P) kq (Eq.trans (ob e1) (Eq.trans (if_neg c2) (Eq.trans (ob e3) (Eq.trans (if_neg c4) (if_pos c5))))))).elim else V_lald (tat ok_X9_cousin_0 (i := 15) (q := 27) rfl rfl) rfl c5 <|
    V_aload_n (tat ok_X9_cousin_0 (i := 16) (q := 28) rfl rfl) 0 rfl rfl <|
    V_getR (tat ok_X9_cousin_0 (i := 17) (q := 31) rfl rfl) fk_X9_17 rfl rfl <|
    V_iload_n (tat ok_X9_cousin_0 (i := 18) (q := 32) rfl rfl) 1 rfl rfl <|
    (if c6 : a1 < 0 ∨ 2 ≤ Int32.toNatClampNeg a1 then ((jq (P := oP P) kq (Eq.trans (ob e1) (Eq.trans (if_neg c2) (Eq.trans (ob e3) (Eq.trans (if_neg c4) (Eq.trans (if_neg c5) (if_pos c6)))))))).elim else V_iald (tat ok_X9_cousin_0 (i := 19) (q := 33) rfl rfl) rfl c6 <|
    V_aload_n (tat ok_X9_cousin_0 (i := 20) (q := 34) rfl rfl) 0 rfl rfl <|
    V_getR (tat ok_X9_cousin_0 (i := 21) (q := 37) rfl rfl) fk_X9_20 rfl rfl <|
    V_iload_n (tat ok_X9_cousin_0 (i := 22) (q := 38) rfl rfl) 1 rfl rfl <|
    (if c7 : a1 < 0 ∨ 2 ≤ Int32.toNatClampNeg a1 then ((jq (P := oP P) kq (Eq.trans (ob e1) (Eq.trans (if_neg c2) (Eq.trans (ob e3) (Eq.trans (if_neg c4) (Eq.trans (if_neg c5) (Eq.trans (if_neg c6) (if_pos c7))))))))).elim else V_iald (tat ok_X9_cousin_0 (i := 23) (q := 39) rfl rfl) rfl c7 <|
    V_cv3v (ct_X9_findName I L (L 35 (Int32.toNatClampNeg a1)) (I 36 (Int32.toNatClampNeg a1)) (I 37 (Int32.toNatClampNeg a1)) ) mo_X9_findName (tat ok_X9_cousin_0 (i := 24) (q := 42) rfl rfl) ml_X9_329 rfl ⟨by decide, _, rfl, rfl⟩ ⟨(Nat.le_of_ble_eq_true rfl), (Nat.le_of_ble_eq_true rfl)⟩ ⟨(Nat.le_of_ble_eq_true rfl), (Nat.le_of_ble_eq_true rfl)⟩ (Nat.le_of_ble_eq_true rfl) <|
    V_aload_n (tat ok_X9_cousin_0 (i := 25) (q := 43) rfl rfl) 0 rfl rfl <|
    V_getL (tat ok_X9_cousin_0 (i := 26) (q := 46) rfl rfl) fk_X9_320 rfl <|
    V_lstore_n (lv' := [(2, .long ((p2 (F_X9_findName I L (L 35 (Int32.toNatClampNeg a1)) (I 36 (Int32.toNatClampNeg a1)) (I 37 (Int32.toNatClampNeg a1)))) 33 39)), (0, .ref 33), (1, .int a1)]) (tat ok_X9_cousin_0 (i := 27) (q := 47) rfl rfl) rfl (Nat.le_of_ble_eq_true rfl) rfl <|
    V_aload_n (tat ok_X9_cousin_0 (i := 28) (q := 48) rfl rfl) 1 rfl rfl <|
    V_getI (tat ok_X9_cousin_0 (i := 29) (q := 51) rfl rfl) fk_X9_323 rfl <|
    V_istore (lv' := [(4, .int ((p1 (F_X9_findName I L (L 35 (Int32.toNatClampNeg a1)) (I 36 (Int32.toNatClampNeg a1)) (I 37 (Int32.toNatClampNeg a1)))) 33 41)), (2, .long ((p2 (F_X9_findName I L (L 35 (Int32.toNatClampNeg a1)) (I 36 (Int32.toNatClampNeg a1)) (I 37 (Int32.toNatClampNeg a1)))) 33 39)), (0, .ref 33), (1, .int a1)]) (tat ok_X9_cousin_0 (i := 30) (q := 53) rfl rfl) (Nat.le_of_ble_eq_true rfl) rfl <|
    V_aload_n (tat ok_X9_cousin_0 (i := 31) (q := 54) rfl rfl) 2 rfl rfl <|
    V_getI (tat ok_X9_cousin_0 (i := 32) (q := 57) rfl rfl) fk_X9_326 rfl <|
    V_istore (lv' := [(5, .int ((p1 (F_X9_findName I L (L 35 (Int32.toNatClampNeg a1)) (I 36 (Int32.toNatClampNeg a1)) (I 37 (Int32.toNatClampNeg a1)))) 33 42)), (4, .int ((p1 (F_X9_findName I L (L 35 (Int32.toNatClampNeg a1)) (I 36 (Int32.toNatClampNeg a1)) (I 37 (Int32.toNatClampNeg a1)))) 33 41)), (2, .long ((p2 (F_X9_findName I L (L 35 (Int32.toNatClampNeg a1)) (I 36 (Int32.toNatClampNeg a1)) (I 37 (Int32.toNatClampNeg a1)))) 33 39)), (0, .ref 33), (1, .int a1)]) (tat ok_X9_cousin_0 (i := 33) (q := 59) rfl rfl) (Nat.le_of_ble_eq_true rfl) rfl <|
    V_aload_n (tat ok_X9_cousin_0 (i := 34) (q := 60) rfl rfl) 3 rfl rfl <|
    V_aload_n (tat ok_X9_cousin_0 (i := 35) (q := 61) rfl rfl) 3 rfl rfl <|
    V_getL (tat ok_X9_cousin_0 (i := 36) (q := 64) rfl rfl) fk_X9_80 rfl <|
    V_aload_n (tat ok_X9_cousin_0 (i := 37) (q := 65) rfl rfl) 3 rfl rfl <|
    V_getI (tat ok_X9_cousin_0 (i := 38) (q := 68) rfl rfl) fk_X9_74 rfl <|
    V_aload_n (tat ok_X9_cousin_0 (i := 39) (q := 69) rfl rfl) 3 rfl rfl <|
    V_getI (tat ok_X9_cousin_1 (i := 0) (q := 72) rfl rfl) fk_X9_77 rfl <|
    V_cv3v (ct_X9_findName (p1 (F_X9_findName I L (L 35 (Int32.toNatClampNeg a1)) (I 36 (Int32.toNatClampNeg a1)) (I 37 (Int32.toNatClampNeg a1)))) (p2 (F_X9_findName I L (L 35 (Int32.toNatClampNeg a1)) (I 36 (Int32.toNatClampNeg a1)) (I 37 (Int32.toNatClampNeg a1)))) ((p2 (F_X9_findName I L (L 35 (Int32.toNatClampNeg a1)) (I 36 (Int32.toNatClampNeg a1)) (I 37 (Int32.toNatClampNeg a1)))) 33 2) ((p1 (F_X9_findName I L (L 35 (Int32.toNatClampNeg a1)) (I 36 (Int32.toNatClampNeg a1)) (I 37 (Int32.toNatClampNeg a1)))) 33 0) ((p1 (F_X9_findName I L (L 35 (Int32.toNatClampNeg a1)) (I 36 (Int32.toNatClampNeg a1)) (I 37 (Int32.toNatClampNeg a1)))) 33 1) ) mo_X9_findName (tat ok_X9_cousin_1 (i := 1) (q := 75) rfl rfl) ml_X9_329 rfl ⟨by decide, _, rfl, rfl⟩ ⟨(Nat.le_of_ble_eq_true rfl), (Nat.le_of_ble_eq_true rfl)⟩ ⟨(Nat.le_of_ble_eq_true rfl), (Nat.le_of_ble_eq_true rfl)⟩ (Nat.le_of_ble_eq_true rfl) <|
    V_lload_n (tat ok_X9_cousin_1 (i := 2) (q := 76) rfl rfl) 2 rfl rfl <|
    V_aload_n (tat ok_X9_cousin_1 (i := 3) (q := 77) rfl rfl) 3 rfl rfl <|
    V_getL (tat ok_X9_cousin_1 (i := 4) (q := 80) rfl rfl) fk_X9_320 rfl <|
    V_lcmp (tat ok_X9_cousin_1 (i := 5) (q := 81) rfl rfl) <|
    V_if_ne (tat ok_X9_cousin_1 (i := 6) (q := 84) rfl rfl) rfl (fun c8 => V_pick [3, 4] rfl (V_X9_cousin_106  hr (jq (P := oP P) kq (Eq.trans (ob e1) (Eq.trans (if_neg c2) (Eq.trans (ob e3) (Eq.trans (if_neg c4) (Eq.trans (if_neg c5) (Eq.trans (if_neg c6) (Eq.trans (if_neg c7) (if_neg c8))))))))))) (fun c8 => V_iload (tat ok_X9_cousin_1 (i := 7) (q := 86) rfl rfl) 1 rfl <|
    V_aload_n (tat ok_X9_cousin_1 (i := 8) (q := 87) rfl rfl) 3 rfl rfl <|
    V_getI (tat ok_X9_cousin_1 (i := 9) (q := 90) rfl rfl) fk_X9_323 rfl <|
    V_icmp_ne (tat ok_X9_cousin_1 (i := 10) (q := 93) rfl rfl) rfl (fun c9 => V_pick [3, 4] rfl (V_X9_cousin_106  hr (jq (P := oP P) kq (Eq.trans (ob e1) (Eq.trans (if_neg c2) (Eq.trans (ob e3) (Eq.trans (if_neg c4) (Eq.trans (if_neg c5) (Eq.trans (if_neg c6) (Eq.trans (if_neg c7) (Eq.trans (if_pos c8) (if_neg c9)))))))))))) (fun c9 => V_iload (tat ok_X9_cousin_1 (i := 11) (q := 95) rfl rfl) 0 rfl <|
    V_aload_n (tat ok_X9_cousin_1 (i := 12) (q := 96) rfl rfl) 3 rfl rfl <|
    V_getI (tat ok_X9_cousin_1 (i := 13) (q := 99) rfl rfl) fk_X9_326 rfl <|
    V_icmp_ne (tat ok_X9_cousin_1 (i := 14) (q := 102) rfl rfl) rfl (fun c10 => V_pick [3, 4] rfl (V_X9_cousin_106  hr (jq (P := oP P) kq (Eq.trans (ob e1) (Eq.trans (if_neg c2) (Eq.trans (ob e3) (Eq.trans (if_neg c4) (Eq.trans (if_neg c5) (Eq.trans (if_neg c6) (Eq.trans (if_neg c7) (Eq.trans (if_pos c8) (Eq.trans (if_pos c9) (if_neg c10))))))))))))) (fun c10 => V_iconst (tat ok_X9_cousin_1 (i := 15) (q := 103) rfl rfl) ic_1 <|
    V_goto (tat ok_X9_cousin_1 (i := 16) (q := 106) rfl rfl) rfl <|
    V_pick [3, 4] rfl (V_X9_cousin_107 rfl hr (jq (P := oP P) kq (Eq.trans (ob e1) (Eq.trans (if_neg c2) (Eq.trans (ob e3) (Eq.trans (if_neg c4) (Eq.trans (if_neg c5) (Eq.trans (if_neg c6) (Eq.trans (if_neg c7) (Eq.trans (if_pos c8) (Eq.trans (if_pos c9) (if_pos c10))))))))))))))))))) (fun c4 => V_bipush (tat ok_X9_cousin_0 (i := 9) (q := 19) rfl rfl) bp_m2 <|
    V_iret (tat ok_X9_cousin_0 (i := 10) (q := 20) rfl rfl) _ rfl (nar_int _) (hr ((-2), I, L) (jq (P := oP P) kq (Eq.trans (ob e1) (Eq.trans (if_neg c2) (Eq.trans (ob e3) (if_pos c4)))))) ⟨(Nat.le_of_ble_eq_true rfl), (Nat.le_of_ble_eq_true rfl)⟩))) (fun c2 => V_iconst (tat ok_X9_cousin_0 (i := 3) (q := 8) rfl rfl) ic_m1 <|
    V_iret (tat ok_X9_cousin_0 (i := 4) (q := 9) rfl rfl) _ rfl (nar_int _) (hr ((-1), I, L) (jq (P := oP P) kq (Eq.trans (ob e1) (if_pos c2)))) ⟨(Nat.le_of_ble_eq_true rfl), (Nat.le_of_ble_eq_true rfl)⟩))
theorem ct_X9_cousin  (I : WI) (L : WL) (a1 : Int32)  {v : (Int32 × WI × WL)} (h : (F_X9_cousin I L a1) = some v) : Ct x_X9_cousin 5 [.ref 33, .int a1] ly0 I L R0 0 0 (some (.int (p1 v)), ly0, (p1 (p2 v)), (p2 (p2 v)), R0) :=
  Ct_of_V mo_X9_cousin.1 (Nat.le_of_ble_eq_true rfl) (V_X9_cousin (P := fun x => x = v)  (fun _ e => by rw [e]) (by rw [h]; exact rfl))
def F_X9_keep (I : WI) (L : WL) (a1 : Int32) : Option (Int32 × WI × WL) :=
  (Option.bind (F_X9_isImage a1) (fun v1 => (if v1 = 0 then some ((-1), I, L) else (Option.bind (F_X9_isKept I a1) (fun v3 => (if a1 < 0 ∨ 2 ≤ Int32.toNatClampNeg a1 then none else (if a1 < 0 ∨ 2 ≤ Int32.toNatClampNeg a1 then none else (if a1 < 0 ∨ 2 ≤ Int32.toNatClampNeg a1 then none else some ((F_X9_flag v3), (u2 (u2 I 36 (Int32.toNatClampNeg a1) (I 33 0)) 37 (Int32.toNatClampNeg a1) ((u2 I 36 (Int32.toNatClampNeg a1) (I 33 0)) 33 1)), (u2 L 35 (Int32.toNatClampNeg a1) (L 33 2)))))))))))
theorem V_X9_keep  {I : WI} {L : WL} {a1 : Int32}  {P : (Int32 × WI × WL) → Prop} {t : Tg} (hr : ∀ v, P v → t = (some (.int (p1 v)), ly0, (p1 (p2 v)), (p2 (p2 v)), R0)) : oP P (F_X9_keep I L a1) → V (zM x_X9_keep 3 0 0 t) 0 [(0, .ref 33), (1, .int a1)] [] ly0 I L R0 0 0 :=
  fun _ =>
  have kq : (oP P (F_X9_keep I L a1)) ∧ True := ⟨by assumption, trivial⟩
  V_iload_n (tat ok_X9_keep_0 (i := 0) (q := 1) rfl rfl) 1 rfl rfl <|
    oP_case (jq (P := oP P) kq rfl) (fun v1 e1 _ => V_cs1 (ct_X9_isImage I L a1  e1) mo_X9_isImage (tat ok_X9_keep_0 (i := 1) (q := 4) rfl rfl) ml_X9_235 ⟨(Nat.le_of_ble_eq_true rfl), (Nat.le_of_ble_eq_true rfl)⟩ ⟨(Nat.le_of_ble_eq_true rfl), (Nat.le_of_ble_eq_true rfl)⟩ (Nat.le_of_ble_eq_true rfl) <|
    V_if_ne (tat ok_X9_keep_0 (i := 2) (q := 7) rfl rfl) rfl (fun c2 => V_aload_n (tat ok_X9_keep_0 (i := 5) (q := 10) rfl rfl) 0 rfl rfl <|
    V_iload_n (tat ok_X9_keep_0 (i := 6) (q := 11) rfl rfl) 1 rfl rfl <|
    oP_case (jq (P := oP P) kq (Eq.trans (ob e1) (if_neg c2))) (fun v3 e3 _ => V_cv1 (ct_X9_isKept I L a1  e3) mo_X9_isKept (tat ok_X9_keep_0 (i := 7) (q := 14) rfl rfl) ml_X9_239 rfl ⟨by decide, _, rfl, rfl⟩ ⟨(Nat.le_of_ble_eq_true rfl), (Nat.le_of_ble_eq_true rfl)⟩ ⟨(Nat.le_of_ble_eq_true rfl), (Nat.le_of_ble_eq_true rfl)⟩ (Nat.le_of_ble_eq_true rfl) <|
    V_cs1 (ct_X9_flag I L v3 ) mo_X9_flag (tat ok_X9_keep_0 (i := 8) (q := 17) rfl rfl) ml_X9_200 ⟨(Nat.le_of_ble_eq_true rfl), (Nat.le_of_ble_eq_true rfl)⟩ ⟨(Nat.le_of_ble_eq_true rfl), (Nat.le_of_ble_eq_true rfl)⟩ (Nat.le_of_ble_eq_true rfl) <|
    V_istore_n (lv' := [(2, .int (F_X9_flag v3)), (0, .ref 33), (1, .int a1)]) (tat ok_X9_keep_0 (i := 9) (q := 18) rfl rfl) rfl (Nat.le_of_ble_eq_true rfl) rfl <|
    V_aload_n (tat ok_X9_keep_0 (i := 10) (q := 19) rfl rfl) 1 rfl rfl <|
    V_getR (tat ok_X9_keep_0 (i := 11) (q := 22) rfl rfl) fk_X9_13 rfl rfl <|
    V_iload_n (tat ok_X9_keep_0 (i := 12) (q := 23) rfl rfl) 2 rfl rfl <|
    V_aload_n (tat ok_X9_keep_0 (i := 13) (q := 24) rfl rfl) 1 rfl rfl <|
    V_getL (tat ok_X9_keep_0 (i := 14) (q := 27) rfl rfl) fk_X9_80 rfl <|
    (if c4 : a1 < 0 ∨ 2 ≤ Int32.toNatClampNeg a1 then ((jq (P := oP P) kq (Eq.trans (ob e1) (Eq.trans (if_neg c2) (Eq.trans (ob e3) (if_pos c4)))))).elim else V_last (tat ok_X9_keep_0 (i := 15) (q := 28) rfl rfl) rfl c4 <|
    V_aload_n (tat ok_X9_keep_0 (i := 16) (q := 29) rfl rfl) 1 rfl rfl <|
    V_getR (tat ok_X9_keep_0 (i := 17) (q := 32) rfl rfl) fk_X9_17 rfl rfl <|
    V_iload_n (tat ok_X9_keep_0 (i := 18) (q := 33) rfl rfl) 2 rfl rfl <|
    V_aload_n (tat ok_X9_keep_0 (i := 19) (q := 34) rfl rfl) 1 rfl rfl <|
    V_getI (tat ok_X9_keep_0 (i := 20) (q := 37) rfl rfl) fk_X9_74 rfl <|
    (if c5 : a1 < 0 ∨ 2 ≤ Int32.toNatClampNeg a1 then ((jq (P := oP P) kq (Eq.trans (ob e1) (Eq.trans (if_neg c2) (Eq.trans (ob e3) (Eq.trans (if_neg c4) (if_pos c5))))))).elim else V_iast (tat ok_X9_keep_0 (i := 21) (q := 38) rfl rfl) rfl c5 <|
    V_aload_n (tat ok_X9_keep_0 (i := 22) (q := 39) rfl rfl) 1 rfl rfl <|
    V_getR (tat ok_X9_keep_0 (i := 23) (q := 42) rfl rfl) fk_X9_20 rfl rfl <|
    V_iload_n (tat ok_X9_keep_0 (i := 24) (q := 43) rfl rfl) 2 rfl rfl <|
    V_aload_n (tat ok_X9_keep_0 (i := 25) (q := 44) rfl rfl) 1 rfl rfl <|
    V_getI (tat ok_X9_keep_0 (i := 26) (q := 47) rfl rfl) fk_X9_77 rfl <|
    (if c6 : a1 < 0 ∨ 2 ≤ Int32.toNatClampNeg a1 then ((jq (P := oP P) kq (Eq.trans (ob e1) (Eq.trans (if_neg c2) (Eq.trans (ob e3) (Eq.trans (if_neg c4) (Eq.trans (if_neg c5) (if_pos c6)))))))).elim else V_iast (tat ok_X9_keep_0 (i := 27) (q := 48) rfl rfl) rfl c6 <|
    V_iload_n (tat ok_X9_keep_0 (i := 28) (q := 49) rfl rfl) 0 rfl rfl <|
    V_iret (tat ok_X9_keep_0 (i := 29) (q := 50) rfl rfl) _ rfl (nar_int _) (hr ((F_X9_flag v3), (u2 (u2 I 36 (Int32.toNatClampNeg a1) (I 33 0)) 37 (Int32.toNatClampNeg a1) ((u2 I 36 (Int32.toNatClampNeg a1) (I 33 0)) 33 1)), (u2 L 35 (Int32.toNatClampNeg a1) (L 33 2))) (jq (P := oP P) kq (Eq.trans (ob e1) (Eq.trans (if_neg c2) (Eq.trans (ob e3) (Eq.trans (if_neg c4) (Eq.trans (if_neg c5) (if_neg c6)))))))) ⟨(Nat.le_of_ble_eq_true rfl), (Nat.le_of_ble_eq_true rfl)⟩))))) (fun c2 => V_iconst (tat ok_X9_keep_0 (i := 3) (q := 8) rfl rfl) ic_m1 <|
    V_iret (tat ok_X9_keep_0 (i := 4) (q := 9) rfl rfl) _ rfl (nar_int _) (hr ((-1), I, L) (jq (P := oP P) kq (Eq.trans (ob e1) (if_pos c2)))) ⟨(Nat.le_of_ble_eq_true rfl), (Nat.le_of_ble_eq_true rfl)⟩))
theorem ct_X9_keep  (I : WI) (L : WL) (a1 : Int32)  {v : (Int32 × WI × WL)} (h : (F_X9_keep I L a1) = some v) : Ct x_X9_keep 3 [.ref 33, .int a1] ly0 I L R0 0 0 (some (.int (p1 v)), ly0, (p1 (p2 v)), (p2 (p2 v)), R0) :=
  Ct_of_V mo_X9_keep.1 (Nat.le_of_ble_eq_true rfl) (V_X9_keep (P := fun x => x = v)  (fun _ e => by rw [e]) (by rw [h]; exact rfl))
def F_X9_back_32 (I : WI) (L : WL) (a1 : Int32) : Option (Int32 × WI × WL) :=
  (if a1 < 0 ∨ 2 ≤ Int32.toNatClampNeg a1 then none else (if a1 < 0 ∨ 2 ≤ Int32.toNatClampNeg a1 then none else (if a1 < 0 ∨ 2 ≤ Int32.toNatClampNeg a1 then none else some ((F_X9_many ((u2 L 33 2 (L 35 (Int32.toNatClampNeg a1))) 33 2)), (u2 (u2 I 33 0 (I 36 (Int32.toNatClampNeg a1))) 33 1 ((u2 I 33 0 (I 36 (Int32.toNatClampNeg a1))) 37 (Int32.toNatClampNeg a1))), (u2 L 33 2 (L 35 (Int32.toNatClampNeg a1)))))))
theorem V_X9_back_32  {I : WI} {L : WL} {a1 : Int32}  {P : (Int32 × WI × WL) → Prop} {t : Tg} (hr : ∀ v, P v → t = (some (.int (p1 v)), ly0, (p1 (p2 v)), (p2 (p2 v)), R0)) : oP P (F_X9_back_32 I L a1) → V (zM x_X9_back 3 0 0 t) 32 [(0, .ref 33), (1, .int a1)] [] ly0 I L R0 0 0 :=
  fun _ =>
  have kq : (oP P (F_X9_back_32 I L a1)) ∧ True := ⟨by assumption, trivial⟩
  V_aload_n (tat ok_X9_back_0 (i := 17) (q := 33) rfl rfl) 0 rfl rfl <|
    V_aload_n (tat ok_X9_back_0 (i := 18) (q := 34) rfl rfl) 0 rfl rfl <|
    V_getR (tat ok_X9_back_0 (i := 19) (q := 37) rfl rfl) fk_X9_13 rfl rfl <|
    V_iload_n (tat ok_X9_back_0 (i := 20) (q := 38) rfl rfl) 1 rfl rfl <|
    (if c7 : a1 < 0 ∨ 2 ≤ Int32.toNatClampNeg a1 then ((jq (P := oP P) kq (if_pos c7))).elim else V_lald (tat ok_X9_back_0 (i := 21) (q := 39) rfl rfl) rfl c7 <|
    V_putL (tat ok_X9_back_0 (i := 22) (q := 42) rfl rfl) fk_X9_80 rfl rfl <|
    V_aload_n (tat ok_X9_back_0 (i := 23) (q := 43) rfl rfl) 0 rfl rfl <|
    V_aload_n (tat ok_X9_back_0 (i := 24) (q := 44) rfl rfl) 0 rfl rfl <|
    V_getR (tat ok_X9_back_0 (i := 25) (q := 47) rfl rfl) fk_X9_17 rfl rfl <|
    V_iload_n (tat ok_X9_back_0 (i := 26) (q := 48) rfl rfl) 1 rfl rfl <|
    (if c8 : a1 < 0 ∨ 2 ≤ Int32.toNatClampNeg a1 then ((jq (P := oP P) kq (Eq.trans (if_neg c7) (if_pos c8)))).elim else V_iald (tat ok_X9_back_0 (i := 27) (q := 49) rfl rfl) rfl c8 <|
    V_putI (tat ok_X9_back_0 (i := 28) (q := 52) rfl rfl) fk_X9_74 rfl rfl <|
    V_aload_n (tat ok_X9_back_0 (i := 29) (q := 53) rfl rfl) 0 rfl rfl <|
    V_aload_n (tat ok_X9_back_0 (i := 30) (q := 54) rfl rfl) 0 rfl rfl <|
    V_getR (tat ok_X9_back_0 (i := 31) (q := 57) rfl rfl) fk_X9_20 rfl rfl <|
    V_iload_n (tat ok_X9_back_0 (i := 32) (q := 58) rfl rfl) 1 rfl rfl <|
    (if c9 : a1 < 0 ∨ 2 ≤ Int32.toNatClampNeg a1 then ((jq (P := oP P) kq (Eq.trans (if_neg c7) (Eq.trans (if_neg c8) (if_pos c9))))).elim else V_iald (tat ok_X9_back_0 (i := 33) (q := 59) rfl rfl) rfl c9 <|
    V_putI (tat ok_X9_back_0 (i := 34) (q := 62) rfl rfl) fk_X9_77 rfl rfl <|
    V_aload_n (tat ok_X9_back_0 (i := 35) (q := 63) rfl rfl) 0 rfl rfl <|
    V_getL (tat ok_X9_back_0 (i := 36) (q := 66) rfl rfl) fk_X9_80 rfl <|
    V_cs1 (ct_X9_many (u2 (u2 I 33 0 (I 36 (Int32.toNatClampNeg a1))) 33 1 ((u2 I 33 0 (I 36 (Int32.toNatClampNeg a1))) 37 (Int32.toNatClampNeg a1))) (u2 L 33 2 (L 35 (Int32.toNatClampNeg a1))) ((u2 L 33 2 (L 35 (Int32.toNatClampNeg a1))) 33 2) ) mo_X9_many (tat ok_X9_back_0 (i := 37) (q := 69) rfl rfl) ml_X9_220 ⟨(Nat.le_of_ble_eq_true rfl), (Nat.le_of_ble_eq_true rfl)⟩ ⟨(Nat.le_of_ble_eq_true rfl), (Nat.le_of_ble_eq_true rfl)⟩ (Nat.le_of_ble_eq_true rfl) <|
    V_iret (tat ok_X9_back_0 (i := 38) (q := 70) rfl rfl) _ rfl (nar_int _) (hr ((F_X9_many ((u2 L 33 2 (L 35 (Int32.toNatClampNeg a1))) 33 2)), (u2 (u2 I 33 0 (I 36 (Int32.toNatClampNeg a1))) 33 1 ((u2 I 33 0 (I 36 (Int32.toNatClampNeg a1))) 37 (Int32.toNatClampNeg a1))), (u2 L 33 2 (L 35 (Int32.toNatClampNeg a1)))) (jq (P := oP P) kq (Eq.trans (if_neg c7) (Eq.trans (if_neg c8) (if_neg c9))))) ⟨(Nat.le_of_ble_eq_true rfl), (Nat.le_of_ble_eq_true rfl)⟩)))
def F_X9_back (I : WI) (L : WL) (a1 : Int32) : Option (Int32 × WI × WL) :=
  (Option.bind (F_X9_isImage a1) (fun v1 => (if v1 = 0 then some ((-1), I, L) else (Option.bind (F_X9_isKept I a1) (fun v3 => (if v3 = 0 then some ((-2), I, L) else (Option.bind (F_X9_isOfSize I a1) (fun v5 => (if v5 = 0 then (F_X9_back_32 (F_X9_endsPattern I) L a1) else (F_X9_back_32 I L a1))))))))))
theorem V_X9_back  {I : WI} {L : WL} {a1 : Int32}  {P : (Int32 × WI × WL) → Prop} {t : Tg} (hr : ∀ v, P v → t = (some (.int (p1 v)), ly0, (p1 (p2 v)), (p2 (p2 v)), R0)) : oP P (F_X9_back I L a1) → V (zM x_X9_back 3 0 0 t) 0 [(0, .ref 33), (1, .int a1)] [] ly0 I L R0 0 0 :=
  fun _ =>
  have kq : (oP P (F_X9_back I L a1)) ∧ True := ⟨by assumption, trivial⟩
  V_iload_n (tat ok_X9_back_0 (i := 0) (q := 1) rfl rfl) 1 rfl rfl <|
    oP_case (jq (P := oP P) kq rfl) (fun v1 e1 _ => V_cs1 (ct_X9_isImage I L a1  e1) mo_X9_isImage (tat ok_X9_back_0 (i := 1) (q := 4) rfl rfl) ml_X9_235 ⟨(Nat.le_of_ble_eq_true rfl), (Nat.le_of_ble_eq_true rfl)⟩ ⟨(Nat.le_of_ble_eq_true rfl), (Nat.le_of_ble_eq_true rfl)⟩ (Nat.le_of_ble_eq_true rfl) <|
    V_if_ne (tat ok_X9_back_0 (i := 2) (q := 7) rfl rfl) rfl (fun c2 => V_aload_n (tat ok_X9_back_0 (i := 5) (q := 10) rfl rfl) 0 rfl rfl <|
    V_iload_n (tat ok_X9_back_0 (i := 6) (q := 11) rfl rfl) 1 rfl rfl <|
    oP_case (jq (P := oP P) kq (Eq.trans (ob e1) (if_neg c2))) (fun v3 e3 _ => V_cv1 (ct_X9_isKept I L a1  e3) mo_X9_isKept (tat ok_X9_back_0 (i := 7) (q := 14) rfl rfl) ml_X9_239 rfl ⟨by decide, _, rfl, rfl⟩ ⟨(Nat.le_of_ble_eq_true rfl), (Nat.le_of_ble_eq_true rfl)⟩ ⟨(Nat.le_of_ble_eq_true rfl), (Nat.le_of_ble_eq_true rfl)⟩ (Nat.le_of_ble_eq_true rfl) <|
    V_if_ne (tat ok_X9_back_0 (i := 8) (q := 17) rfl rfl) rfl (fun c4 => V_aload_n (tat ok_X9_back_0 (i := 11) (q := 21) rfl rfl) 0 rfl rfl <|
    V_iload_n (tat ok_X9_back_0 (i := 12) (q := 22) rfl rfl) 1 rfl rfl <|
    oP_case (jq (P := oP P) kq (Eq.trans (ob e1) (Eq.trans (if_neg c2) (Eq.trans (ob e3) (if_neg c4))))) (fun v5 e5 _ => V_cv1 (ct_X9_isOfSize I L a1  e5) mo_X9_isOfSize (tat ok_X9_back_0 (i := 13) (q := 25) rfl rfl) ml_X9_242 rfl ⟨by decide, _, rfl, rfl⟩ ⟨(Nat.le_of_ble_eq_true rfl), (Nat.le_of_ble_eq_true rfl)⟩ ⟨(Nat.le_of_ble_eq_true rfl), (Nat.le_of_ble_eq_true rfl)⟩ (Nat.le_of_ble_eq_true rfl) <|
    V_if_ne (tat ok_X9_back_0 (i := 14) (q := 28) rfl rfl) rfl (fun c6 => V_X9_back_32  hr (jq (P := oP P) kq (Eq.trans (ob e1) (Eq.trans (if_neg c2) (Eq.trans (ob e3) (Eq.trans (if_neg c4) (Eq.trans (ob e5) (if_neg c6)))))))) (fun c6 => V_aload_n (tat ok_X9_back_0 (i := 15) (q := 29) rfl rfl) 0 rfl rfl <|
    V_cv0v (ct_X9_endsPattern I L  ) mo_X9_endsPattern (tat ok_X9_back_0 (i := 16) (q := 32) rfl rfl) ml_X9_314 rfl ⟨by decide, _, rfl, rfl⟩ ⟨(Nat.le_of_ble_eq_true rfl), (Nat.le_of_ble_eq_true rfl)⟩ ⟨(Nat.le_of_ble_eq_true rfl), (Nat.le_of_ble_eq_true rfl)⟩ (Nat.le_of_ble_eq_true rfl) <|
    V_X9_back_32  hr (jq (P := oP P) kq (Eq.trans (ob e1) (Eq.trans (if_neg c2) (Eq.trans (ob e3) (Eq.trans (if_neg c4) (Eq.trans (ob e5) (if_pos c6)))))))))) (fun c4 => V_bipush (tat ok_X9_back_0 (i := 9) (q := 19) rfl rfl) bp_m2 <|
    V_iret (tat ok_X9_back_0 (i := 10) (q := 20) rfl rfl) _ rfl (nar_int _) (hr ((-2), I, L) (jq (P := oP P) kq (Eq.trans (ob e1) (Eq.trans (if_neg c2) (Eq.trans (ob e3) (if_pos c4)))))) ⟨(Nat.le_of_ble_eq_true rfl), (Nat.le_of_ble_eq_true rfl)⟩))) (fun c2 => V_iconst (tat ok_X9_back_0 (i := 3) (q := 8) rfl rfl) ic_m1 <|
    V_iret (tat ok_X9_back_0 (i := 4) (q := 9) rfl rfl) _ rfl (nar_int _) (hr ((-1), I, L) (jq (P := oP P) kq (Eq.trans (ob e1) (if_pos c2)))) ⟨(Nat.le_of_ble_eq_true rfl), (Nat.le_of_ble_eq_true rfl)⟩))
theorem ct_X9_back  (I : WI) (L : WL) (a1 : Int32)  {v : (Int32 × WI × WL)} (h : (F_X9_back I L a1) = some v) : Ct x_X9_back 3 [.ref 33, .int a1] ly0 I L R0 0 0 (some (.int (p1 v)), ly0, (p1 (p2 v)), (p2 (p2 v)), R0) :=
  Ct_of_V mo_X9_back.1 (Nat.le_of_ble_eq_true rfl) (V_X9_back (P := fun x => x = v)  (fun _ e => by rw [e]) (by rw [h]; exact rfl))
def F_X9_isSheet_29 (a0 : Int32) (a1 : Int32) (s0 : Int32) : Int32 :=
  s0
theorem V_X9_isSheet_29  {I : WI} {L : WL} {a0 : Int32} {a1 : Int32} {s0 : Int32} {P : Int32 → Prop} {t : Tg} (hs0 : bz s0 = s0) (hr : ∀ v, P v → t = (some (.int v), ly0, I, L, R0)) (kk : P (F_X9_isSheet_29 a0 a1 s0)) : V (zM x_X9_isSheet 2 0 0 t) 29 [(0, .int a0), (1, .int a1)] [.int s0] ly0 I L R0 0 0 :=
  V_iret (tat ok_X9_isSheet_0 (i := 15) (q := 30) rfl rfl) _ rfl (bz_nf hs0).1 (hr s0 (jx (P := P) kk rfl)) ⟨(Nat.le_of_ble_eq_true rfl), (Nat.le_of_ble_eq_true rfl)⟩
def F_X9_isSheet_28 (a0 : Int32) (a1 : Int32) : Int32 :=
  (F_X9_isSheet_29 a0 a1 0)
theorem V_X9_isSheet_28  {I : WI} {L : WL} {a0 : Int32} {a1 : Int32}  {P : Int32 → Prop} {t : Tg} (hr : ∀ v, P v → t = (some (.int v), ly0, I, L, R0)) (kk : P (F_X9_isSheet_28 a0 a1)) : V (zM x_X9_isSheet 2 0 0 t) 28 [(0, .int a0), (1, .int a1)] [] ly0 I L R0 0 0 :=
  V_iconst (tat ok_X9_isSheet_0 (i := 14) (q := 29) rfl rfl) ic_0 <|
    V_X9_isSheet_29 rfl hr (jx (P := P) kk rfl)
def F_X9_isSheet (a0 : Int32) (a1 : Int32) : Int32 :=
  (if (F_X9_in (Int32.toInt64 a0) 0 3) = 0 then (F_X9_isSheet_28 a0 a1) else (if (F_X9_in (Int32.toInt64 a1) 0 2) = 0 then (F_X9_isSheet_28 a0 a1) else (F_X9_isSheet_29 a0 a1 1)))
theorem V_X9_isSheet  {I : WI} {L : WL} {a0 : Int32} {a1 : Int32}  {P : Int32 → Prop} {t : Tg} (hr : ∀ v, P v → t = (some (.int v), ly0, I, L, R0)) (kk : P (F_X9_isSheet a0 a1)) : V (zM x_X9_isSheet 2 0 0 t) 0 [(0, .int a0), (1, .int a1)] [] ly0 I L R0 0 0 :=
  V_iload_n (tat ok_X9_isSheet_0 (i := 0) (q := 1) rfl rfl) 0 rfl rfl <|
    V_i2l (tat ok_X9_isSheet_0 (i := 1) (q := 2) rfl rfl) <|
    V_lconst (v := 0) (tat ok_X9_isSheet_0 (i := 2) (q := 3) rfl rfl) rfl <|
    V_ldc2 (tat ok_X9_isSheet_0 (i := 3) (q := 6) rfl rfl) (gw_in kl_X9_251 rfl) <|
    V_cs3 (ct_X9_in I L (Int32.toInt64 a0) 0 3 ) mo_X9_in (tat ok_X9_isSheet_0 (i := 4) (q := 9) rfl rfl) ml_X9_97 ⟨(Nat.le_of_ble_eq_true rfl), (Nat.le_of_ble_eq_true rfl)⟩ ⟨(Nat.le_of_ble_eq_true rfl), (Nat.le_of_ble_eq_true rfl)⟩ (Nat.le_of_ble_eq_true rfl) <|
    V_if_eq (tat ok_X9_isSheet_0 (i := 5) (q := 12) rfl rfl) rfl (fun c1 => V_X9_isSheet_28  hr (jx (P := P) kk (if_pos c1))) (fun c1 => V_iload_n (tat ok_X9_isSheet_0 (i := 6) (q := 13) rfl rfl) 1 rfl rfl <|
    V_i2l (tat ok_X9_isSheet_0 (i := 7) (q := 14) rfl rfl) <|
    V_lconst (v := 0) (tat ok_X9_isSheet_0 (i := 8) (q := 15) rfl rfl) rfl <|
    V_ldc2 (tat ok_X9_isSheet_0 (i := 9) (q := 18) rfl rfl) (gw_in kl_X9_189 rfl) <|
    V_cs3 (ct_X9_in I L (Int32.toInt64 a1) 0 2 ) mo_X9_in (tat ok_X9_isSheet_0 (i := 10) (q := 21) rfl rfl) ml_X9_97 ⟨(Nat.le_of_ble_eq_true rfl), (Nat.le_of_ble_eq_true rfl)⟩ ⟨(Nat.le_of_ble_eq_true rfl), (Nat.le_of_ble_eq_true rfl)⟩ (Nat.le_of_ble_eq_true rfl) <|
    V_if_eq (tat ok_X9_isSheet_0 (i := 11) (q := 24) rfl rfl) rfl (fun c2 => V_X9_isSheet_28  hr (jx (P := P) kk (Eq.trans (if_neg c1) (if_pos c2)))) (fun c2 => V_iconst (tat ok_X9_isSheet_0 (i := 12) (q := 25) rfl rfl) ic_1 <|
    V_goto (tat ok_X9_isSheet_0 (i := 13) (q := 28) rfl rfl) rfl <|
    V_X9_isSheet_29 rfl hr (jx (P := P) kk (Eq.trans (if_neg c1) (if_neg c2)))))
theorem ct_X9_isSheet  (I : WI) (L : WL) (a0 : Int32) (a1 : Int32)  : Ct x_X9_isSheet 2 [.int a0, .int a1] ly0 I L R0 0 0 (some (.int (F_X9_isSheet a0 a1)), ly0, I, L, R0) :=
  Ct_of_V mo_X9_isSheet.1 (Nat.le_of_ble_eq_true rfl) (V_X9_isSheet (P := fun x => x = (F_X9_isSheet a0 a1))  (fun _ e => by rw [e]) rfl)
def F_X9_sheet_14 (I : WI) (a1 : Int32) (a2 : Int32) (a3 : Int32) : Option (Int32 × WI) :=
  some ((-1), I)
theorem V_X9_sheet_14  {I : WI} {L : WL} {a1 : Int32} {a2 : Int32} {a3 : Int32}  {P : (Int32 × WI) → Prop} {t : Tg} (hr : ∀ v, P v → t = (some (.int (p1 v)), ly0, (p2 v), L, R0)) : oP P (F_X9_sheet_14 I a1 a2 a3) → V (zM x_X9_sheet 3 0 0 t) 14 [(0, .ref 33), (1, .int a1), (2, .int a2), (3, .int a3)] [] ly0 I L R0 0 0 :=
  fun _ =>
  have kq : (oP P (F_X9_sheet_14 I a1 a2 a3)) ∧ True := ⟨by assumption, trivial⟩
  V_iconst (tat ok_X9_sheet_0 (i := 7) (q := 15) rfl rfl) ic_m1 <|
    V_iret (tat ok_X9_sheet_0 (i := 8) (q := 16) rfl rfl) _ rfl (nar_int _) (hr ((-1), I) (jq (P := oP P) kq rfl)) ⟨(Nat.le_of_ble_eq_true rfl), (Nat.le_of_ble_eq_true rfl)⟩
def F_X9_sheet_47_1 (I : WI) (a1 : Int32) (a2 : Int32) (a3 : Int32) (a4 : Int32) : Option WI :=
  (if ((40 * a1) + a4) < 0 ∨ 160 ≤ Int32.toNatClampNeg ((40 * a1) + a4) then none else some (u2 I 44 (Int32.toNatClampNeg ((40 * a1) + a4)) 0))
theorem V_X9_sheet_47_1  {I : WI} {L : WL} {a1 : Int32} {a2 : Int32} {a3 : Int32} {a4 : Int32}  {P : WI → Prop} {t : Tg} (hk : ∀ x : WI, P x → V (zM x_X9_sheet 3 0 0 t) 40 [(0, .ref 33), (1, .int a1), (2, .int a2), (3, .int a3), (4, .int (a4 + 1))] [] ly0 x L R0 0 0) : oP P (F_X9_sheet_47_1 I a1 a2 a3 a4) → V (zM x_X9_sheet 3 0 0 t) 47 [(0, .ref 33), (1, .int a1), (2, .int a2), (3, .int a3), (4, .int a4)] [] ly0 I L R0 0 0 :=
  fun _ =>
  have kq : (oP P (F_X9_sheet_47_1 I a1 a2 a3 a4)) ∧ True := ⟨by assumption, trivial⟩
  V_aload_n (tat ok_X9_sheet_0 (i := 28) (q := 48) rfl rfl) 0 rfl rfl <|
    V_getR (tat ok_X9_sheet_0 (i := 29) (q := 51) rfl rfl) fk_X9_41 rfl rfl <|
    V_bipush (tat ok_X9_sheet_0 (i := 30) (q := 53) rfl rfl) bp_40 <|
    V_iload_n (tat ok_X9_sheet_0 (i := 31) (q := 54) rfl rfl) 1 rfl rfl <|
    V_imul (tat ok_X9_sheet_0 (i := 32) (q := 55) rfl rfl) <|
    V_iload (tat ok_X9_sheet_0 (i := 33) (q := 57) rfl rfl) 4 rfl <|
    V_iadd (tat ok_X9_sheet_0 (i := 34) (q := 58) rfl rfl) <|
    V_iconst (tat ok_X9_sheet_0 (i := 35) (q := 59) rfl rfl) ic_0 <|
    (if c6 : ((40 * a1) + a4) < 0 ∨ 160 ≤ Int32.toNatClampNeg ((40 * a1) + a4) then ((jq (P := oP P) kq (if_pos c6))).elim else V_iast (tat ok_X9_sheet_0 (i := 36) (q := 60) rfl rfl) rfl c6 <|
    V_iinc (v := (a4 + 1)) (lv' := [(4, .int (a4 + 1)), (0, .ref 33), (1, .int a1), (2, .int a2), (3, .int a3)]) (tat ok_X9_sheet_0 (i := 37) (q := 63) rfl rfl) 4 rfl (ia ic_1) (Nat.le_of_ble_eq_true rfl) rfl <|
    V_goto (tat ok_X9_sheet_0 (i := 38) (q := 66) rfl rfl) rfl <|
    V_pick [1, 2, 3, 4, 0] rfl (hk (u2 I 44 (Int32.toNatClampNeg ((40 * a1) + a4)) 0) (jq (P := oP P) kq (if_neg c6))))
def F_X9_sheet_66 (I : WI) (a1 : Int32) (a2 : Int32) (a3 : Int32) : Option (Int32 × WI) :=
  some (1, I)
theorem V_X9_sheet_66  {I : WI} {L : WL} {a1 : Int32} {a2 : Int32} {a3 : Int32}  {P : (Int32 × WI) → Prop} {t : Tg} (hr : ∀ v, P v → t = (some (.int (p1 v)), ly0, (p2 v), L, R0)) : oP P (F_X9_sheet_66 I a1 a2 a3) → V (zM x_X9_sheet 3 0 0 t) 66 [(0, .ref 33), (1, .int a1), (2, .int a2), (3, .int a3)] [] ly0 I L R0 0 0 :=
  fun _ =>
  have kq : (oP P (F_X9_sheet_66 I a1 a2 a3)) ∧ True := ⟨by assumption, trivial⟩
  V_iconst (tat ok_X9_sheet_0 (i := 39) (q := 67) rfl rfl) ic_1 <|
    V_iret (tat ok_X9_sheet_1 (i := 0) (q := 68) rfl rfl) _ rfl (nar_int _) (hr (1, I) (jq (P := oP P) kq rfl)) ⟨(Nat.le_of_ble_eq_true rfl), (Nat.le_of_ble_eq_true rfl)⟩
def F_X9_sheet_40 (I : WI) (a1 : Int32) (a2 : Int32) (a3 : Int32) (a4 : Int32) : Option (Int32 × WI) :=
  (frp0 (fun i x => (F_X9_sheet_47_1 x a1 a2 a3 i)) 40 (fu a4 40) a4 I).bind (fun q => (F_X9_sheet_66 (p2 q) a1 a2 a3))
theorem V_X9_sheet_40  {I : WI} {L : WL} {a1 : Int32} {a2 : Int32} {a3 : Int32} {a4 : Int32} {P : (Int32 × WI) → Prop} {t : Tg} (hb4 : bz a4 = a4) (hr : ∀ v, P v → t = (some (.int (p1 v)), ly0, (p2 v), L, R0)) (kk : oP P (F_X9_sheet_40 I a1 a2 a3 a4)) : V (zM x_X9_sheet 3 0 0 t) 40 [(0, .ref 33), (1, .int a1), (2, .int a2), (3, .int a3), (4, .int a4)] [] ly0 I L R0 0 0 :=
  V_frp0 (fun i x => (F_X9_sheet_47_1 x a1 a2 a3 i)) 40 (fun i x => V (zM x_X9_sheet 3 0 0 t) 40 [(0, .ref 33), (1, .int a1), (2, .int a2), (3, .int a3), (4, .int i)] [] ly0 x L R0 0 0) (fun i x => oP P ((F_X9_sheet_66 x a1 a2 a3))) (c := a4) (s := I) (fun i x kx kb => V_iload (tat ok_X9_sheet_0 (i := 25) (q := 42) rfl rfl) 4 rfl <|
    V_bipush (tat ok_X9_sheet_0 (i := 26) (q := 44) rfl rfl) bp_40 <|
    V_icmp_ge (tat ok_X9_sheet_0 (i := 27) (q := 47) rfl rfl) rfl (fun c0 => V_pick [0, 1, 2, 3] rfl (V_X9_sheet_66  hr (kx c0))) (fun c0 => V_X9_sheet_47_1 (P := (fun x => (fun i x => V (zM x_X9_sheet 3 0 0 t) 40 [(0, .ref 33), (1, .int a1), (2, .int a2), (3, .int a3), (4, .int i)] [] ly0 x L R0 0 0) (i + 1) x))  (fun _ e => e) (kb c0))) (oP_bind (f := fun q => _) kk)
def F_X9_sheet (I : WI) (a1 : Int32) (a2 : Int32) (a3 : Int32) : Option (Int32 × WI) :=
  (if (F_X9_isSheet a1 a2) = 0 then (F_X9_sheet_14 I a1 a2 a3) else (if a3 ≤ 40 then (if 0 ≤ a3 then (if a1 < 0 ∨ 4 ≤ Int32.toNatClampNeg a1 then none else (if a1 < 0 ∨ 4 ≤ Int32.toNatClampNeg a1 then none else (F_X9_sheet_40 (u2 (u2 I 42 (Int32.toNatClampNeg a1) a2) 43 (Int32.toNatClampNeg a1) a3) a1 a2 a3 0))) else some ((-14), I)) else (F_X9_sheet_14 I a1 a2 a3)))
theorem V_X9_sheet  {I : WI} {L : WL} {a1 : Int32} {a2 : Int32} {a3 : Int32}  {P : (Int32 × WI) → Prop} {t : Tg} (hr : ∀ v, P v → t = (some (.int (p1 v)), ly0, (p2 v), L, R0)) : oP P (F_X9_sheet I a1 a2 a3) → V (zM x_X9_sheet 3 0 0 t) 0 [(0, .ref 33), (1, .int a1), (2, .int a2), (3, .int a3)] [] ly0 I L R0 0 0 :=
  fun _ =>
  have kq : (oP P (F_X9_sheet I a1 a2 a3)) ∧ True := ⟨by assumption, trivial⟩
  V_iload_n (tat ok_X9_sheet_0 (i := 0) (q := 1) rfl rfl) 1 rfl rfl <|
    V_iload_n (tat ok_X9_sheet_0 (i := 1) (q := 2) rfl rfl) 2 rfl rfl <|
    V_cs2 (ct_X9_isSheet I L a1 a2 ) mo_X9_isSheet (tat ok_X9_sheet_0 (i := 2) (q := 5) rfl rfl) ml_X9_333 ⟨(Nat.le_of_ble_eq_true rfl), (Nat.le_of_ble_eq_true rfl)⟩ ⟨(Nat.le_of_ble_eq_true rfl), (Nat.le_of_ble_eq_true rfl)⟩ (Nat.le_of_ble_eq_true rfl) <|
    V_if_eq (tat ok_X9_sheet_0 (i := 3) (q := 8) rfl rfl) rfl (fun c1 => V_X9_sheet_14  hr (jq (P := oP P) kq (if_pos c1))) (fun c1 => V_iload_n (tat ok_X9_sheet_0 (i := 4) (q := 9) rfl rfl) 3 rfl rfl <|
    V_bipush (tat ok_X9_sheet_0 (i := 5) (q := 11) rfl rfl) bp_40 <|
    V_icmp_le (tat ok_X9_sheet_0 (i := 6) (q := 14) rfl rfl) rfl (fun c2 => V_iload_n (tat ok_X9_sheet_0 (i := 9) (q := 17) rfl rfl) 3 rfl rfl <|
    V_if_ge (tat ok_X9_sheet_0 (i := 10) (q := 20) rfl rfl) rfl (fun c3 => V_aload_n (tat ok_X9_sheet_0 (i := 13) (q := 24) rfl rfl) 0 rfl rfl <|
    V_getR (tat ok_X9_sheet_0 (i := 14) (q := 27) rfl rfl) fk_X9_35 rfl rfl <|
    V_iload_n (tat ok_X9_sheet_0 (i := 15) (q := 28) rfl rfl) 1 rfl rfl <|
    V_iload_n (tat ok_X9_sheet_0 (i := 16) (q := 29) rfl rfl) 2 rfl rfl <|
    (if c4 : a1 < 0 ∨ 4 ≤ Int32.toNatClampNeg a1 then ((jq (P := oP P) kq (Eq.trans (if_neg c1) (Eq.trans (if_pos c2) (Eq.trans (if_pos c3) (if_pos c4)))))).elim else V_iast (tat ok_X9_sheet_0 (i := 17) (q := 30) rfl rfl) rfl c4 <|
    V_aload_n (tat ok_X9_sheet_0 (i := 18) (q := 31) rfl rfl) 0 rfl rfl <|
    V_getR (tat ok_X9_sheet_0 (i := 19) (q := 34) rfl rfl) fk_X9_38 rfl rfl <|
    V_iload_n (tat ok_X9_sheet_0 (i := 20) (q := 35) rfl rfl) 1 rfl rfl <|
    V_iload_n (tat ok_X9_sheet_0 (i := 21) (q := 36) rfl rfl) 3 rfl rfl <|
    (if c5 : a1 < 0 ∨ 4 ≤ Int32.toNatClampNeg a1 then ((jq (P := oP P) kq (Eq.trans (if_neg c1) (Eq.trans (if_pos c2) (Eq.trans (if_pos c3) (Eq.trans (if_neg c4) (if_pos c5))))))).elim else V_iast (tat ok_X9_sheet_0 (i := 22) (q := 37) rfl rfl) rfl c5 <|
    V_iconst (tat ok_X9_sheet_0 (i := 23) (q := 38) rfl rfl) ic_0 <|
    V_istore (lv' := [(4, .int 0), (0, .ref 33), (1, .int a1), (2, .int a2), (3, .int a3)]) (tat ok_X9_sheet_0 (i := 24) (q := 40) rfl rfl) (Nat.le_of_ble_eq_true rfl) rfl <|
    V_pick [1, 2, 3, 4, 0] rfl (V_X9_sheet_40 rfl hr (jq (P := oP P) kq (Eq.trans (if_neg c1) (Eq.trans (if_pos c2) (Eq.trans (if_pos c3) (Eq.trans (if_neg c4) (if_neg c5)))))))))) (fun c3 => V_bipush (tat ok_X9_sheet_0 (i := 11) (q := 22) rfl rfl) bp_m14 <|
    V_iret (tat ok_X9_sheet_0 (i := 12) (q := 23) rfl rfl) _ rfl (nar_int _) (hr ((-14), I) (jq (P := oP P) kq (Eq.trans (if_neg c1) (Eq.trans (if_pos c2) (if_neg c3))))) ⟨(Nat.le_of_ble_eq_true rfl), (Nat.le_of_ble_eq_true rfl)⟩)) (fun c2 => V_X9_sheet_14  hr (jq (P := oP P) kq (Eq.trans (if_neg c1) (if_neg c2)))))
theorem ct_X9_sheet  (I : WI) (L : WL) (a1 : Int32) (a2 : Int32) (a3 : Int32)  {v : (Int32 × WI)} (h : (F_X9_sheet I a1 a2 a3) = some v) : Ct x_X9_sheet 3 [.ref 33, .int a1, .int a2, .int a3] ly0 I L R0 0 0 (some (.int (p1 v)), ly0, (p2 v), L, R0) :=
  Ct_of_V mo_X9_sheet.1 (Nat.le_of_ble_eq_true rfl) (V_X9_sheet (P := fun x => x = v)  (fun _ e => by rw [e]) (by rw [h]; exact rfl))
def F_X9_lay_85 (I : WI) (a1 : Int32) (a2 : Int32) (a3 : Int32) (s0 : Int32) (s1 : Int32) : Option (Int32 × WI) :=
  (if s1 < 0 ∨ 160 ≤ Int32.toNatClampNeg s1 then none else some (1, (u2 I 44 (Int32.toNatClampNeg s1) s0)))
theorem V_X9_lay_85  {I : WI} {L : WL} {a1 : Int32} {a2 : Int32} {a3 : Int32} {s0 : Int32} {s1 : Int32} {P : (Int32 × WI) → Prop} {t : Tg} (hr : ∀ v, P v → t = (some (.int (p1 v)), ly0, (p2 v), L, R0)) : oP P (F_X9_lay_85 I a1 a2 a3 s0 s1) → V (zM x_X9_lay 3 0 0 t) 85 [(0, .ref 33), (1, .int a1), (2, .int a2), (3, .int a3)] [.int s0, .int s1, .ref 44] ly0 I L R0 0 0 :=
  fun _ =>
  have kq : (oP P (F_X9_lay_85 I a1 a2 a3 s0 s1)) ∧ True := ⟨by assumption, trivial⟩
  (if c8 : s1 < 0 ∨ 160 ≤ Int32.toNatClampNeg s1 then ((jq (P := oP P) kq (if_pos c8))).elim else V_iast (tat ok_X9_lay_1 (i := 13) (q := 86) rfl rfl) rfl c8 <|
    V_iconst (tat ok_X9_lay_1 (i := 14) (q := 87) rfl rfl) ic_1 <|
    V_iret (tat ok_X9_lay_1 (i := 15) (q := 88) rfl rfl) _ rfl (nar_int _) (hr (1, (u2 I 44 (Int32.toNatClampNeg s1) s0)) (jq (P := oP P) kq (if_neg c8))) ⟨(Nat.le_of_ble_eq_true rfl), (Nat.le_of_ble_eq_true rfl)⟩)
def F_X9_lay (I : WI) (a1 : Int32) (a2 : Int32) (a3 : Int32) : Option (Int32 × WI) :=
  (if (F_X9_isSheet a1 0) = 0 then some ((-1), I) else (if a1 < 0 ∨ 4 ≤ Int32.toNatClampNeg a1 then none else (if (I 42 (Int32.toNatClampNeg a1)) = (-4) then some ((-11), I) else (if a1 < 0 ∨ 4 ≤ Int32.toNatClampNeg a1 then none else (if (F_X9_in (Int32.toInt64 a2) 0 (Int32.toInt64 ((I 43 (Int32.toNatClampNeg a1)) - 1))) = 0 then some ((-12), I) else (if a1 < 0 ∨ 4 ≤ Int32.toNatClampNeg a1 then none else (if (I 42 (Int32.toNatClampNeg a1)) = 0 then (F_X9_lay_85 I a1 a2 a3 (Int8.toInt32 (Int32.toInt8 a3)) ((40 * a1) + a2)) else (if a1 < 0 ∨ 4 ≤ Int32.toNatClampNeg a1 then none else (if (I 42 (Int32.toNatClampNeg a1)) = 1 then (F_X9_lay_85 I a1 a2 a3 (Int16.toInt32 (Int32.toInt16 a3)) ((40 * a1) + a2)) else (F_X9_lay_85 I a1 a2 a3 a3 ((40 * a1) + a2)))))))))))
theorem V_X9_lay  {I : WI} {L : WL} {a1 : Int32} {a2 : Int32} {a3 : Int32}  {P : (Int32 × WI) → Prop} {t : Tg} (hr : ∀ v, P v → t = (some (.int (p1 v)), ly0, (p2 v), L, R0)) : oP P (F_X9_lay I a1 a2 a3) → V (zM x_X9_lay 3 0 0 t) 0 [(0, .ref 33), (1, .int a1), (2, .int a2), (3, .int a3)] [] ly0 I L R0 0 0 :=
  fun _ =>
  have kq : (oP P (F_X9_lay I a1 a2 a3)) ∧ True := ⟨by assumption, trivial⟩
  V_iload_n (tat ok_X9_lay_0 (i := 0) (q := 1) rfl rfl) 1 rfl rfl <|
    V_iconst (tat ok_X9_lay_0 (i := 1) (q := 2) rfl rfl) ic_0 <|
    V_cs2 (ct_X9_isSheet I L a1 0 ) mo_X9_isSheet (tat ok_X9_lay_0 (i := 2) (q := 5) rfl rfl) ml_X9_333 ⟨(Nat.le_of_ble_eq_true rfl), (Nat.le_of_ble_eq_true rfl)⟩ ⟨(Nat.le_of_ble_eq_true rfl), (Nat.le_of_ble_eq_true rfl)⟩ (Nat.le_of_ble_eq_true rfl) <|
    V_if_ne (tat ok_X9_lay_0 (i := 3) (q := 8) rfl rfl) rfl (fun c1 => V_aload_n (tat ok_X9_lay_0 (i := 6) (q := 11) rfl rfl) 0 rfl rfl <|
    V_getR (tat ok_X9_lay_0 (i := 7) (q := 14) rfl rfl) fk_X9_35 rfl rfl <|
    V_iload_n (tat ok_X9_lay_0 (i := 8) (q := 15) rfl rfl) 1 rfl rfl <|
    (if c2 : a1 < 0 ∨ 4 ≤ Int32.toNatClampNeg a1 then ((jq (P := oP P) kq (Eq.trans (if_neg c1) (if_pos c2)))).elim else V_iald (tat ok_X9_lay_0 (i := 9) (q := 16) rfl rfl) rfl c2 <|
    V_bipush (tat ok_X9_lay_0 (i := 10) (q := 18) rfl rfl) bp_m4 <|
    V_icmp_ne (tat ok_X9_lay_0 (i := 11) (q := 21) rfl rfl) rfl (fun c3 => V_iload_n (tat ok_X9_lay_0 (i := 14) (q := 25) rfl rfl) 2 rfl rfl <|
    V_i2l (tat ok_X9_lay_0 (i := 15) (q := 26) rfl rfl) <|
    V_lconst (v := 0) (tat ok_X9_lay_0 (i := 16) (q := 27) rfl rfl) rfl <|
    V_aload_n (tat ok_X9_lay_0 (i := 17) (q := 28) rfl rfl) 0 rfl rfl <|
    V_getR (tat ok_X9_lay_0 (i := 18) (q := 31) rfl rfl) fk_X9_38 rfl rfl <|
    V_iload_n (tat ok_X9_lay_0 (i := 19) (q := 32) rfl rfl) 1 rfl rfl <|
    (if c4 : a1 < 0 ∨ 4 ≤ Int32.toNatClampNeg a1 then ((jq (P := oP P) kq (Eq.trans (if_neg c1) (Eq.trans (if_neg c2) (Eq.trans (if_neg c3) (if_pos c4)))))).elim else V_iald (tat ok_X9_lay_0 (i := 20) (q := 33) rfl rfl) rfl c4 <|
    V_iconst (tat ok_X9_lay_0 (i := 21) (q := 34) rfl rfl) ic_1 <|
    V_isub (tat ok_X9_lay_0 (i := 22) (q := 35) rfl rfl) <|
    V_i2l (tat ok_X9_lay_0 (i := 23) (q := 36) rfl rfl) <|
    V_cs3 (ct_X9_in I L (Int32.toInt64 a2) 0 (Int32.toInt64 ((I 43 (Int32.toNatClampNeg a1)) - 1)) ) mo_X9_in (tat ok_X9_lay_0 (i := 24) (q := 39) rfl rfl) ml_X9_97 ⟨(Nat.le_of_ble_eq_true rfl), (Nat.le_of_ble_eq_true rfl)⟩ ⟨(Nat.le_of_ble_eq_true rfl), (Nat.le_of_ble_eq_true rfl)⟩ (Nat.le_of_ble_eq_true rfl) <|
    V_if_ne (tat ok_X9_lay_0 (i := 25) (q := 42) rfl rfl) rfl (fun c5 => V_aload_n (tat ok_X9_lay_0 (i := 28) (q := 46) rfl rfl) 0 rfl rfl <|
    V_getR (tat ok_X9_lay_0 (i := 29) (q := 49) rfl rfl) fk_X9_41 rfl rfl <|
    V_bipush (tat ok_X9_lay_0 (i := 30) (q := 51) rfl rfl) bp_40 <|
    V_iload_n (tat ok_X9_lay_0 (i := 31) (q := 52) rfl rfl) 1 rfl rfl <|
    V_imul (tat ok_X9_lay_0 (i := 32) (q := 53) rfl rfl) <|
    V_iload_n (tat ok_X9_lay_0 (i := 33) (q := 54) rfl rfl) 2 rfl rfl <|
    V_iadd (tat ok_X9_lay_0 (i := 34) (q := 55) rfl rfl) <|
    V_aload_n (tat ok_X9_lay_0 (i := 35) (q := 56) rfl rfl) 0 rfl rfl <|
    V_getR (tat ok_X9_lay_0 (i := 36) (q := 59) rfl rfl) fk_X9_35 rfl rfl <|
    V_iload_n (tat ok_X9_lay_0 (i := 37) (q := 60) rfl rfl) 1 rfl rfl <|
    (if c6 : a1 < 0 ∨ 4 ≤ Int32.toNatClampNeg a1 then ((jq (P := oP P) kq (Eq.trans (if_neg c1) (Eq.trans (if_neg c2) (Eq.trans (if_neg c3) (Eq.trans (if_neg c4) (Eq.trans (if_neg c5) (if_pos c6)))))))).elim else V_iald (tat ok_X9_lay_0 (i := 38) (q := 61) rfl rfl) rfl c6 <|
    V_if_ne (tat ok_X9_lay_0 (i := 39) (q := 64) rfl rfl) rfl (fun c7 => V_aload_n (tat ok_X9_lay_1 (i := 3) (q := 70) rfl rfl) 0 rfl rfl <|
    V_getR (tat ok_X9_lay_1 (i := 4) (q := 73) rfl rfl) fk_X9_35 rfl rfl <|
    V_iload_n (tat ok_X9_lay_1 (i := 5) (q := 74) rfl rfl) 1 rfl rfl <|
    (if c9 : a1 < 0 ∨ 4 ≤ Int32.toNatClampNeg a1 then ((jq (P := oP P) kq (Eq.trans (if_neg c1) (Eq.trans (if_neg c2) (Eq.trans (if_neg c3) (Eq.trans (if_neg c4) (Eq.trans (if_neg c5) (Eq.trans (if_neg c6) (Eq.trans (if_neg c7) (if_pos c9)))))))))).elim else V_iald (tat ok_X9_lay_1 (i := 6) (q := 75) rfl rfl) rfl c9 <|
    V_iconst (tat ok_X9_lay_1 (i := 7) (q := 76) rfl rfl) ic_1 <|
    V_icmp_ne (tat ok_X9_lay_1 (i := 8) (q := 79) rfl rfl) rfl (fun c10 => V_iload_n (tat ok_X9_lay_1 (i := 12) (q := 85) rfl rfl) 3 rfl rfl <|
    V_X9_lay_85  hr (jq (P := oP P) kq (Eq.trans (if_neg c1) (Eq.trans (if_neg c2) (Eq.trans (if_neg c3) (Eq.trans (if_neg c4) (Eq.trans (if_neg c5) (Eq.trans (if_neg c6) (Eq.trans (if_neg c7) (Eq.trans (if_neg c9) (if_neg c10))))))))))) (fun c10 => V_iload_n (tat ok_X9_lay_1 (i := 9) (q := 80) rfl rfl) 3 rfl rfl <|
    V_i2s (tat ok_X9_lay_1 (i := 10) (q := 81) rfl rfl) <|
    V_goto (tat ok_X9_lay_1 (i := 11) (q := 84) rfl rfl) rfl <|
    V_X9_lay_85  hr (jq (P := oP P) kq (Eq.trans (if_neg c1) (Eq.trans (if_neg c2) (Eq.trans (if_neg c3) (Eq.trans (if_neg c4) (Eq.trans (if_neg c5) (Eq.trans (if_neg c6) (Eq.trans (if_neg c7) (Eq.trans (if_neg c9) (if_pos c10))))))))))))) (fun c7 => V_iload_n (tat ok_X9_lay_1 (i := 0) (q := 65) rfl rfl) 3 rfl rfl <|
    V_i2b (tat ok_X9_lay_1 (i := 1) (q := 66) rfl rfl) <|
    V_goto (tat ok_X9_lay_1 (i := 2) (q := 69) rfl rfl) rfl <|
    V_X9_lay_85  hr (jq (P := oP P) kq (Eq.trans (if_neg c1) (Eq.trans (if_neg c2) (Eq.trans (if_neg c3) (Eq.trans (if_neg c4) (Eq.trans (if_neg c5) (Eq.trans (if_neg c6) (if_pos c7))))))))))) (fun c5 => V_bipush (tat ok_X9_lay_0 (i := 26) (q := 44) rfl rfl) bp_m12 <|
    V_iret (tat ok_X9_lay_0 (i := 27) (q := 45) rfl rfl) _ rfl (nar_int _) (hr ((-12), I) (jq (P := oP P) kq (Eq.trans (if_neg c1) (Eq.trans (if_neg c2) (Eq.trans (if_neg c3) (Eq.trans (if_neg c4) (if_pos c5))))))) ⟨(Nat.le_of_ble_eq_true rfl), (Nat.le_of_ble_eq_true rfl)⟩))) (fun c3 => V_bipush (tat ok_X9_lay_0 (i := 12) (q := 23) rfl rfl) bp_m11 <|
    V_iret (tat ok_X9_lay_0 (i := 13) (q := 24) rfl rfl) _ rfl (nar_int _) (hr ((-11), I) (jq (P := oP P) kq (Eq.trans (if_neg c1) (Eq.trans (if_neg c2) (if_pos c3))))) ⟨(Nat.le_of_ble_eq_true rfl), (Nat.le_of_ble_eq_true rfl)⟩))) (fun c1 => V_iconst (tat ok_X9_lay_0 (i := 4) (q := 9) rfl rfl) ic_m1 <|
    V_iret (tat ok_X9_lay_0 (i := 5) (q := 10) rfl rfl) _ rfl (nar_int _) (hr ((-1), I) (jq (P := oP P) kq (if_pos c1))) ⟨(Nat.le_of_ble_eq_true rfl), (Nat.le_of_ble_eq_true rfl)⟩)
theorem ct_X9_lay  (I : WI) (L : WL) (a1 : Int32) (a2 : Int32) (a3 : Int32)  {v : (Int32 × WI)} (h : (F_X9_lay I a1 a2 a3) = some v) : Ct x_X9_lay 3 [.ref 33, .int a1, .int a2, .int a3] ly0 I L R0 0 0 (some (.int (p1 v)), ly0, (p2 v), L, R0) :=
  Ct_of_V mo_X9_lay.1 (Nat.le_of_ble_eq_true rfl) (V_X9_lay (P := fun x => x = v)  (fun _ e => by rw [e]) (by rw [h]; exact rfl))
def F_X9_read_21 (I : WI) (L : WL) (a1 : Int32) (a2 : Int32) (a3 : Int32) (a4 : Int32) : Option (Int32 × WI × WL) :=
  some ((-1), I, L)
theorem V_X9_read_21  {I : WI} {L : WL} {a1 : Int32} {a2 : Int32} {a3 : Int32} {a4 : Int32}  {P : (Int32 × WI × WL) → Prop} {t : Tg} (hr : ∀ v, P v → t = (some (.int (p1 v)), ly0, (p1 (p2 v)), (p2 (p2 v)), R0)) : oP P (F_X9_read_21 I L a1 a2 a3 a4) → V (zM x_X9_read 4 0 0 t) 21 [(0, .ref 33), (1, .int a1), (2, .int a2), (3, .int a3), (4, .int a4)] [] ly0 I L R0 0 0 :=
  fun _ =>
  have kq : (oP P (F_X9_read_21 I L a1 a2 a3 a4)) ∧ True := ⟨by assumption, trivial⟩
  V_iconst (tat ok_X9_read_0 (i := 10) (q := 22) rfl rfl) ic_m1 <|
    V_iret (tat ok_X9_read_0 (i := 11) (q := 23) rfl rfl) _ rfl (nar_int _) (hr ((-1), I, L) (jq (P := oP P) kq rfl)) ⟨(Nat.le_of_ble_eq_true rfl), (Nat.le_of_ble_eq_true rfl)⟩
def F_X9_read_126_2 (I : WI) (L : WL) (a1 : Int32) (a2 : Int32) (a3 : Int32) (a4 : Int32) (a6 : Int32) (a7 : Int32) (a8 : Int32) (s0 : Int32) : Option (Int32 ⊕ (Int32 × Int32)) :=
  some (.inr (s0, (a8 + 1)))
theorem V_X9_read_126_2  {I : WI} {L : WL} {a1 : Int32} {a2 : Int32} {a3 : Int32} {a4 : Int32} {a6 : Int32} {a7 : Int32} {a8 : Int32} {s0 : Int32} {P : (Int32 ⊕ (Int32 × Int32)) → Prop} {t : Tg} (he : ∀ x : Int32, P (.inl x) → V (zM x_X9_read 4 0 0 t) 134 [(0, .ref 33), (1, .int a1), (2, .int a2), (3, .int a3), (4, .int a4), (5, .int x), (6, .int a6), (7, .int a7)] [] ly0 I L R0 0 0) (hk : ∀ x : (Int32 × Int32), P (.inr x) → V (zM x_X9_read 4 0 0 t) 47 [(0, .ref 33), (1, .int a1), (2, .int a2), (3, .int a3), (4, .int a4), (5, .int (p1 x)), (6, .int a6), (7, .int a7), (8, .int (p2 x))] [] ly0 I L R0 0 0) : oP P (F_X9_read_126_2 I L a1 a2 a3 a4 a6 a7 a8 s0) → V (zM x_X9_read 4 0 0 t) 126 [(0, .ref 33), (1, .int a1), (2, .int a2), (3, .int a3), (4, .int a4), (6, .int a6), (7, .int a7), (8, .int a8)] [.int s0] ly0 I L R0 0 0 :=
  fun _ =>
  have kq : (oP P (F_X9_read_126_2 I L a1 a2 a3 a4 a6 a7 a8 s0)) ∧ True := ⟨by assumption, trivial⟩
  V_istore (lv' := [(5, .int s0), (0, .ref 33), (1, .int a1), (2, .int a2), (3, .int a3), (4, .int a4), (6, .int a6), (7, .int a7), (8, .int a8)]) (tat ok_X9_read_1 (i := 32) (q := 128) rfl rfl) (Nat.le_of_ble_eq_true rfl) rfl <|
    V_iinc (v := (a8 + 1)) (lv' := [(8, .int (a8 + 1)), (5, .int s0), (0, .ref 33), (1, .int a1), (2, .int a2), (3, .int a3), (4, .int a4), (6, .int a6), (7, .int a7)]) (tat ok_X9_read_1 (i := 33) (q := 131) rfl rfl) 8 rfl (ia ic_1) (Nat.le_of_ble_eq_true rfl) rfl <|
    V_goto (tat ok_X9_read_1 (i := 34) (q := 134) rfl rfl) rfl <|
    V_pick [2, 3, 4, 5, 6, 1, 7, 8, 0] rfl (hk (s0, (a8 + 1)) (jq (P := oP P) kq rfl))
def F_X9_read_121_2 (I : WI) (L : WL) (a1 : Int32) (a2 : Int32) (a3 : Int32) (a4 : Int32) (a6 : Int32) (a7 : Int32) (a8 : Int32) : Option (Int32 ⊕ (Int32 × Int32)) :=
  (F_X9_read_126_2 I L a1 a2 a3 a4 a6 a7 a8 2)
theorem V_X9_read_121_2  {I : WI} {L : WL} {a1 : Int32} {a2 : Int32} {a3 : Int32} {a4 : Int32} {a6 : Int32} {a7 : Int32} {a8 : Int32} {P : (Int32 ⊕ (Int32 × Int32)) → Prop} {t : Tg} (he : ∀ x : Int32, P (.inl x) → V (zM x_X9_read 4 0 0 t) 134 [(0, .ref 33), (1, .int a1), (2, .int a2), (3, .int a3), (4, .int a4), (5, .int x), (6, .int a6), (7, .int a7)] [] ly0 I L R0 0 0) (hk : ∀ x : (Int32 × Int32), P (.inr x) → V (zM x_X9_read 4 0 0 t) 47 [(0, .ref 33), (1, .int a1), (2, .int a2), (3, .int a3), (4, .int a4), (5, .int (p1 x)), (6, .int a6), (7, .int a7), (8, .int (p2 x))] [] ly0 I L R0 0 0) : oP P (F_X9_read_121_2 I L a1 a2 a3 a4 a6 a7 a8) → V (zM x_X9_read 4 0 0 t) 121 [(0, .ref 33), (1, .int a1), (2, .int a2), (3, .int a3), (4, .int a4), (6, .int a6), (7, .int a7), (8, .int a8)] [] ly0 I L R0 0 0 :=
  fun _ =>
  have kq : (oP P (F_X9_read_121_2 I L a1 a2 a3 a4 a6 a7 a8)) ∧ True := ⟨by assumption, trivial⟩
  V_iconst (tat ok_X9_read_1 (i := 29) (q := 122) rfl rfl) ic_2 <|
    V_goto (tat ok_X9_read_1 (i := 30) (q := 125) rfl rfl) rfl <|
    V_X9_read_126_2  he hk (jq (P := oP P) kq rfl)
def F_X9_read_47_2 (I : WI) (L : WL) (a1 : Int32) (a2 : Int32) (a3 : Int32) (a4 : Int32) (a6 : Int32) (a7 : Int32) (a5 : Int32) (a8 : Int32) : Option (Int32 ⊕ (Int32 × Int32)) :=
  (if 2 ≤ a8 then some (.inl a5) else (if a5 = 0 then (if a1 < 0 ∨ 4 ≤ Int32.toNatClampNeg a1 then none else (if (I 42 (Int32.toNatClampNeg a1)) = (-4) then (F_X9_read_126_2 I L a1 a2 a3 a4 a6 a7 a8 1) else (if a1 < 0 ∨ 4 ≤ Int32.toNatClampNeg a1 then none else (if (I 42 (Int32.toNatClampNeg a1)) = a2 then (if (lg_cmp (((Int32.toInt64 a3) + (Int32.toInt64 (2 * a7))) + (Int32.toInt64 a8)) 0) < 0 then (F_X9_read_121_2 I L a1 a2 a3 a4 a6 a7 a8) else (if a1 < 0 ∨ 4 ≤ Int32.toNatClampNeg a1 then none else (if (lg_cmp (((Int32.toInt64 a3) + (Int32.toInt64 (2 * a7))) + (Int32.toInt64 a8)) (Int32.toInt64 (I 43 (Int32.toNatClampNeg a1)))) < 0 then (F_X9_read_126_2 I L a1 a2 a3 a4 a6 a7 a8 0) else (F_X9_read_121_2 I L a1 a2 a3 a4 a6 a7 a8)))) else (F_X9_read_126_2 I L a1 a2 a3 a4 a6 a7 a8 3))))) else some (.inl a5)))
theorem V_X9_read_47_2  {I : WI} {L : WL} {a1 : Int32} {a2 : Int32} {a3 : Int32} {a4 : Int32} {a6 : Int32} {a7 : Int32} {a5 : Int32} {a8 : Int32} {P : (Int32 ⊕ (Int32 × Int32)) → Prop} {t : Tg} (he : ∀ x : Int32, P (.inl x) → V (zM x_X9_read 4 0 0 t) 134 [(0, .ref 33), (1, .int a1), (2, .int a2), (3, .int a3), (4, .int a4), (5, .int x), (6, .int a6), (7, .int a7)] [] ly0 I L R0 0 0) (hk : ∀ x : (Int32 × Int32), P (.inr x) → V (zM x_X9_read 4 0 0 t) 47 [(0, .ref 33), (1, .int a1), (2, .int a2), (3, .int a3), (4, .int a4), (5, .int (p1 x)), (6, .int a6), (7, .int a7), (8, .int (p2 x))] [] ly0 I L R0 0 0) : oP P (F_X9_read_47_2 I L a1 a2 a3 a4 a6 a7 a5 a8) → V (zM x_X9_read 4 0 0 t) 47 [(0, .ref 33), (1, .int a1), (2, .int a2), (3, .int a3), (4, .int a4), (5, .int a5), (6, .int a6), (7, .int a7), (8, .int a8)] [] ly0 I L R0 0 0 :=
  fun _ =>
  have kq : (oP P (F_X9_read_47_2 I L a1 a2 a3 a4 a6 a7 a5 a8)) ∧ True := ⟨by assumption, trivial⟩
  V_iload (tat ok_X9_read_0 (i := 25) (q := 49) rfl rfl) 8 rfl <|
    V_iconst (tat ok_X9_read_0 (i := 26) (q := 50) rfl rfl) ic_2 <|
    V_icmp_ge (tat ok_X9_read_0 (i := 27) (q := 53) rfl rfl) rfl (fun c5 => V_pick [0, 1, 2, 3, 4, 5, 6, 7] rfl (he a5 (jq (P := oP P) kq (if_pos c5)))) (fun c5 => V_iload (tat ok_X9_read_0 (i := 28) (q := 55) rfl rfl) 5 rfl <|
    V_if_ne (tat ok_X9_read_0 (i := 29) (q := 58) rfl rfl) rfl (fun c6 => V_pick [0, 1, 2, 3, 4, 5, 6, 7] rfl (he a5 (jq (P := oP P) kq (Eq.trans (if_neg c5) (if_neg c6))))) (fun c6 => V_iload_n (tat ok_X9_read_0 (i := 30) (q := 59) rfl rfl) 3 rfl rfl <|
    V_i2l (tat ok_X9_read_0 (i := 31) (q := 60) rfl rfl) <|
    V_iconst (tat ok_X9_read_0 (i := 32) (q := 61) rfl rfl) ic_2 <|
    V_iload (tat ok_X9_read_0 (i := 33) (q := 63) rfl rfl) 7 rfl <|
    V_imul (tat ok_X9_read_0 (i := 34) (q := 64) rfl rfl) <|
    V_i2l (tat ok_X9_read_0 (i := 35) (q := 65) rfl rfl) <|
    V_ladd (tat ok_X9_read_0 (i := 36) (q := 66) rfl rfl) <|
    V_iload (tat ok_X9_read_0 (i := 37) (q := 68) rfl rfl) 8 rfl <|
    V_i2l (tat ok_X9_read_0 (i := 38) (q := 69) rfl rfl) <|
    V_ladd (tat ok_X9_read_0 (i := 39) (q := 70) rfl rfl) <|
    V_lstore (lv' := [(9, .long (((Int32.toInt64 a3) + (Int32.toInt64 (2 * a7))) + (Int32.toInt64 a8))), (0, .ref 33), (1, .int a1), (2, .int a2), (3, .int a3), (4, .int a4), (5, .int a5), (6, .int a6), (7, .int a7), (8, .int a8)]) (tat ok_X9_read_1 (i := 0) (q := 72) rfl rfl) (Nat.le_of_ble_eq_true rfl) rfl <|
    V_aload_n (tat ok_X9_read_1 (i := 1) (q := 73) rfl rfl) 1 rfl rfl <|
    V_getR (tat ok_X9_read_1 (i := 2) (q := 76) rfl rfl) fk_X9_35 rfl rfl <|
    V_iload_n (tat ok_X9_read_1 (i := 3) (q := 77) rfl rfl) 2 rfl rfl <|
    (if c7 : a1 < 0 ∨ 4 ≤ Int32.toNatClampNeg a1 then ((jq (P := oP P) kq (Eq.trans (if_neg c5) (Eq.trans (if_pos c6) (if_pos c7))))).elim else V_iald (tat ok_X9_read_1 (i := 4) (q := 78) rfl rfl) rfl c7 <|
    V_bipush (tat ok_X9_read_1 (i := 5) (q := 80) rfl rfl) bp_m4 <|
    V_icmp_ne (tat ok_X9_read_1 (i := 6) (q := 83) rfl rfl) rfl (fun c8 => V_aload_n (tat ok_X9_read_1 (i := 9) (q := 88) rfl rfl) 1 rfl rfl <|
    V_getR (tat ok_X9_read_1 (i := 10) (q := 91) rfl rfl) fk_X9_35 rfl rfl <|
    V_iload_n (tat ok_X9_read_1 (i := 11) (q := 92) rfl rfl) 2 rfl rfl <|
    (if c9 : a1 < 0 ∨ 4 ≤ Int32.toNatClampNeg a1 then ((jq (P := oP P) kq (Eq.trans (if_neg c5) (Eq.trans (if_pos c6) (Eq.trans (if_neg c7) (Eq.trans (if_neg c8) (if_pos c9))))))).elim else V_iald (tat ok_X9_read_1 (i := 12) (q := 93) rfl rfl) rfl c9 <|
    V_iload_n (tat ok_X9_read_1 (i := 13) (q := 94) rfl rfl) 3 rfl rfl <|
    V_icmp_eq (tat ok_X9_read_1 (i := 14) (q := 97) rfl rfl) rfl (fun c10 => V_lload (tat ok_X9_read_1 (i := 17) (q := 103) rfl rfl) 0 rfl <|
    V_lconst (v := 0) (tat ok_X9_read_1 (i := 18) (q := 104) rfl rfl) rfl <|
    V_lcmp (tat ok_X9_read_1 (i := 19) (q := 105) rfl rfl) <|
    V_if_lt (tat ok_X9_read_1 (i := 20) (q := 108) rfl rfl) rfl (fun c11 => V_pick [1, 2, 3, 4, 5, 7, 8, 9] rfl (V_X9_read_121_2  he hk (jq (P := oP P) kq (Eq.trans (if_neg c5) (Eq.trans (if_pos c6) (Eq.trans (if_neg c7) (Eq.trans (if_neg c8) (Eq.trans (if_neg c9) (Eq.trans (if_pos c10) (if_pos c11)))))))))) (fun c11 => V_lload (tat ok_X9_read_1 (i := 21) (q := 110) rfl rfl) 0 rfl <|
    V_aload_n (tat ok_X9_read_1 (i := 22) (q := 111) rfl rfl) 1 rfl rfl <|
    V_getR (tat ok_X9_read_1 (i := 23) (q := 114) rfl rfl) fk_X9_38 rfl rfl <|
    V_iload_n (tat ok_X9_read_1 (i := 24) (q := 115) rfl rfl) 2 rfl rfl <|
    (if c12 : a1 < 0 ∨ 4 ≤ Int32.toNatClampNeg a1 then ((jq (P := oP P) kq (Eq.trans (if_neg c5) (Eq.trans (if_pos c6) (Eq.trans (if_neg c7) (Eq.trans (if_neg c8) (Eq.trans (if_neg c9) (Eq.trans (if_pos c10) (Eq.trans (if_neg c11) (if_pos c12)))))))))).elim else V_iald (tat ok_X9_read_1 (i := 25) (q := 116) rfl rfl) rfl c12 <|
    V_i2l (tat ok_X9_read_1 (i := 26) (q := 117) rfl rfl) <|
    V_lcmp (tat ok_X9_read_1 (i := 27) (q := 118) rfl rfl) <|
    V_if_lt (tat ok_X9_read_1 (i := 28) (q := 121) rfl rfl) rfl (fun c13 => V_iconst (tat ok_X9_read_1 (i := 31) (q := 126) rfl rfl) ic_0 <|
    V_pick [1, 2, 3, 4, 5, 7, 8, 9] rfl (V_X9_read_126_2  he hk (jq (P := oP P) kq (Eq.trans (if_neg c5) (Eq.trans (if_pos c6) (Eq.trans (if_neg c7) (Eq.trans (if_neg c8) (Eq.trans (if_neg c9) (Eq.trans (if_pos c10) (Eq.trans (if_neg c11) (Eq.trans (if_neg c12) (if_pos c13)))))))))))) (fun c13 => V_pick [1, 2, 3, 4, 5, 7, 8, 9] rfl (V_X9_read_121_2  he hk (jq (P := oP P) kq (Eq.trans (if_neg c5) (Eq.trans (if_pos c6) (Eq.trans (if_neg c7) (Eq.trans (if_neg c8) (Eq.trans (if_neg c9) (Eq.trans (if_pos c10) (Eq.trans (if_neg c11) (Eq.trans (if_neg c12) (if_neg c13))))))))))))))) (fun c10 => V_iconst (tat ok_X9_read_1 (i := 15) (q := 98) rfl rfl) ic_3 <|
    V_goto (tat ok_X9_read_1 (i := 16) (q := 101) rfl rfl) rfl <|
    V_pick [1, 2, 3, 4, 5, 7, 8, 9] rfl (V_X9_read_126_2  he hk (jq (P := oP P) kq (Eq.trans (if_neg c5) (Eq.trans (if_pos c6) (Eq.trans (if_neg c7) (Eq.trans (if_neg c8) (Eq.trans (if_neg c9) (if_neg c10))))))))))) (fun c8 => V_iconst (tat ok_X9_read_1 (i := 7) (q := 84) rfl rfl) ic_1 <|
    V_goto (tat ok_X9_read_1 (i := 8) (q := 87) rfl rfl) rfl <|
    V_pick [1, 2, 3, 4, 5, 7, 8, 9] rfl (V_X9_read_126_2  he hk (jq (P := oP P) kq (Eq.trans (if_neg c5) (Eq.trans (if_pos c6) (Eq.trans (if_neg c7) (if_pos c8))))))))))
def F_X9_read_184_1 (I : WI) (L : WL) (a1 : Int32) (a2 : Int32) (a3 : Int32) (a4 : Int32) (a5 : Int32) (a6 : Int32) (a7 : Int32) : Option (((Int32 × WI × WL) ⊕ (Int32 × Int32)) ⊕ (Int32 × Int32 × Int32)) :=
  some (.inr (a5, a6, (a7 + 1)))
theorem V_X9_read_184_1  {I : WI} {L : WL} {a1 : Int32} {a2 : Int32} {a3 : Int32} {a4 : Int32} {a5 : Int32} {a6 : Int32} {a7 : Int32} {P : (((Int32 × WI × WL) ⊕ (Int32 × Int32)) ⊕ (Int32 × Int32 × Int32)) → Prop} {t : Tg} (hr : ∀ v, P (.inl (.inl v)) → t = (some (.int (p1 v)), ly0, (p1 (p2 v)), (p2 (p2 v)), R0)) (he : ∀ x : (Int32 × Int32), P (.inl (.inr x)) → V (zM x_X9_read 4 0 0 t) 190 [(0, .ref 33), (1, .int a1), (2, .int a2), (3, .int a3), (4, .int a4), (5, .int (p1 x)), (6, .int (p2 x))] [] ly0 I L R0 0 0) (hk : ∀ x : (Int32 × Int32 × Int32), P (.inr x) → V (zM x_X9_read 4 0 0 t) 32 [(0, .ref 33), (1, .int a1), (2, .int a2), (3, .int a3), (4, .int a4), (5, .int (p1 x)), (6, .int (p1 (p2 x))), (7, .int (p2 (p2 x)))] [] ly0 I L R0 0 0) : oP P (F_X9_read_184_1 I L a1 a2 a3 a4 a5 a6 a7) → V (zM x_X9_read 4 0 0 t) 184 [(0, .ref 33), (1, .int a1), (2, .int a2), (3, .int a3), (4, .int a4), (5, .int a5), (6, .int a6), (7, .int a7)] [] ly0 I L R0 0 0 :=
  fun _ =>
  have kq : (oP P (F_X9_read_184_1 I L a1 a2 a3 a4 a5 a6 a7)) ∧ True := ⟨by assumption, trivial⟩
  V_iinc (v := (a7 + 1)) (lv' := [(7, .int (a7 + 1)), (0, .ref 33), (1, .int a1), (2, .int a2), (3, .int a3), (4, .int a4), (5, .int a5), (6, .int a6)]) (tat ok_X9_read_2 (i := 25) (q := 187) rfl rfl) 7 rfl (ia ic_1) (Nat.le_of_ble_eq_true rfl) rfl <|
    V_goto (tat ok_X9_read_2 (i := 26) (q := 190) rfl rfl) rfl <|
    V_pick [1, 2, 3, 4, 5, 6, 7, 0] rfl (hk (a5, a6, (a7 + 1)) (jq (P := oP P) kq rfl))
def F_X9_read_134_1 (I : WI) (L : WL) (a1 : Int32) (a2 : Int32) (a3 : Int32) (a4 : Int32) (a5 : Int32) (a6 : Int32) (a7 : Int32) : Option (((Int32 × WI × WL) ⊕ (Int32 × Int32)) ⊕ (Int32 × Int32 × Int32)) :=
  (if a5 = 0 then (if (((40 * a1) + a3) + (2 * a7)) < 0 ∨ 160 ≤ Int32.toNatClampNeg (((40 * a1) + a3) + (2 * a7)) then none else (if ((((40 * a1) + a3) + (2 * a7)) + 1) < 0 ∨ 160 ≤ Int32.toNatClampNeg ((((40 * a1) + a3) + (2 * a7)) + 1) then none else (Option.bind (F_X9_isAct I (I 44 (Int32.toNatClampNeg (((40 * a1) + a3) + (2 * a7)))) (I 44 (Int32.toNatClampNeg ((((40 * a1) + a3) + (2 * a7)) + 1)))) (fun v17 => (if v17 = 0 then some (.inl (.inl (((-20) - a7), I, L))) else (F_X9_read_184_1 I L a1 a2 a3 a4 a5 (a6 + 1) a7)))))) else (F_X9_read_184_1 I L a1 a2 a3 a4 a5 a6 a7))
theorem V_X9_read_134_1  {I : WI} {L : WL} {a1 : Int32} {a2 : Int32} {a3 : Int32} {a4 : Int32} {a5 : Int32} {a6 : Int32} {a7 : Int32} {P : (((Int32 × WI × WL) ⊕ (Int32 × Int32)) ⊕ (Int32 × Int32 × Int32)) → Prop} {t : Tg} (hr : ∀ v, P (.inl (.inl v)) → t = (some (.int (p1 v)), ly0, (p1 (p2 v)), (p2 (p2 v)), R0)) (he : ∀ x : (Int32 × Int32), P (.inl (.inr x)) → V (zM x_X9_read 4 0 0 t) 190 [(0, .ref 33), (1, .int a1), (2, .int a2), (3, .int a3), (4, .int a4), (5, .int (p1 x)), (6, .int (p2 x))] [] ly0 I L R0 0 0) (hk : ∀ x : (Int32 × Int32 × Int32), P (.inr x) → V (zM x_X9_read 4 0 0 t) 32 [(0, .ref 33), (1, .int a1), (2, .int a2), (3, .int a3), (4, .int a4), (5, .int (p1 x)), (6, .int (p1 (p2 x))), (7, .int (p2 (p2 x)))] [] ly0 I L R0 0 0) : oP P (F_X9_read_134_1 I L a1 a2 a3 a4 a5 a6 a7) → V (zM x_X9_read 4 0 0 t) 134 [(0, .ref 33), (1, .int a1), (2, .int a2), (3, .int a3), (4, .int a4), (5, .int a5), (6, .int a6), (7, .int a7)] [] ly0 I L R0 0 0 :=
  fun _ =>
  have kq : (oP P (F_X9_read_134_1 I L a1 a2 a3 a4 a5 a6 a7)) ∧ True := ⟨by assumption, trivial⟩
  V_iload (tat ok_X9_read_1 (i := 35) (q := 136) rfl rfl) 5 rfl <|
    V_if_ne (tat ok_X9_read_1 (i := 36) (q := 139) rfl rfl) rfl (fun c14 => V_X9_read_184_1  hr he hk (jq (P := oP P) kq (if_neg c14))) (fun c14 => V_bipush (tat ok_X9_read_1 (i := 37) (q := 141) rfl rfl) bp_40 <|
    V_iload_n (tat ok_X9_read_1 (i := 38) (q := 142) rfl rfl) 1 rfl rfl <|
    V_imul (tat ok_X9_read_1 (i := 39) (q := 143) rfl rfl) <|
    V_iload_n (tat ok_X9_read_2 (i := 0) (q := 144) rfl rfl) 3 rfl rfl <|
    V_iadd (tat ok_X9_read_2 (i := 1) (q := 145) rfl rfl) <|
    V_iconst (tat ok_X9_read_2 (i := 2) (q := 146) rfl rfl) ic_2 <|
    V_iload (tat ok_X9_read_2 (i := 3) (q := 148) rfl rfl) 7 rfl <|
    V_imul (tat ok_X9_read_2 (i := 4) (q := 149) rfl rfl) <|
    V_iadd (tat ok_X9_read_2 (i := 5) (q := 150) rfl rfl) <|
    V_istore (lv' := [(8, .int (((40 * a1) + a3) + (2 * a7))), (0, .ref 33), (1, .int a1), (2, .int a2), (3, .int a3), (4, .int a4), (5, .int a5), (6, .int a6), (7, .int a7)]) (tat ok_X9_read_2 (i := 6) (q := 152) rfl rfl) (Nat.le_of_ble_eq_true rfl) rfl <|
    V_aload_n (tat ok_X9_read_2 (i := 7) (q := 153) rfl rfl) 1 rfl rfl <|
    V_aload_n (tat ok_X9_read_2 (i := 8) (q := 154) rfl rfl) 1 rfl rfl <|
    V_getR (tat ok_X9_read_2 (i := 9) (q := 157) rfl rfl) fk_X9_41 rfl rfl <|
    V_iload (tat ok_X9_read_2 (i := 10) (q := 159) rfl rfl) 0 rfl <|
    (if c15 : (((40 * a1) + a3) + (2 * a7)) < 0 ∨ 160 ≤ Int32.toNatClampNeg (((40 * a1) + a3) + (2 * a7)) then ((jq (P := oP P) kq (Eq.trans (if_pos c14) (if_pos c15)))).elim else V_iald (tat ok_X9_read_2 (i := 11) (q := 160) rfl rfl) rfl c15 <|
    V_aload_n (tat ok_X9_read_2 (i := 12) (q := 161) rfl rfl) 1 rfl rfl <|
    V_getR (tat ok_X9_read_2 (i := 13) (q := 164) rfl rfl) fk_X9_41 rfl rfl <|
    V_iload (tat ok_X9_read_2 (i := 14) (q := 166) rfl rfl) 0 rfl <|
    V_iconst (tat ok_X9_read_2 (i := 15) (q := 167) rfl rfl) ic_1 <|
    V_iadd (tat ok_X9_read_2 (i := 16) (q := 168) rfl rfl) <|
    (if c16 : ((((40 * a1) + a3) + (2 * a7)) + 1) < 0 ∨ 160 ≤ Int32.toNatClampNeg ((((40 * a1) + a3) + (2 * a7)) + 1) then ((jq (P := oP P) kq (Eq.trans (if_pos c14) (Eq.trans (if_neg c15) (if_pos c16))))).elim else V_iald (tat ok_X9_read_2 (i := 17) (q := 169) rfl rfl) rfl c16 <|
    oP_case (jq (P := oP P) kq (Eq.trans (if_pos c14) (Eq.trans (if_neg c15) (if_neg c16)))) (fun v17 e17 _ => V_cv2 (ct_X9_isAct I L (I 44 (Int32.toNatClampNeg (((40 * a1) + a3) + (2 * a7)))) (I 44 (Int32.toNatClampNeg ((((40 * a1) + a3) + (2 * a7)) + 1)))  e17) mo_X9_isAct (tat ok_X9_read_2 (i := 18) (q := 172) rfl rfl) ml_X9_214 rfl ⟨by decide, _, rfl, rfl⟩ ⟨(Nat.le_of_ble_eq_true rfl), (Nat.le_of_ble_eq_true rfl)⟩ ⟨(Nat.le_of_ble_eq_true rfl), (Nat.le_of_ble_eq_true rfl)⟩ (Nat.le_of_ble_eq_true rfl) <|
    V_if_ne (tat ok_X9_read_2 (i := 19) (q := 175) rfl rfl) rfl (fun c18 => V_iinc (v := (a6 + 1)) (lv' := [(6, .int (a6 + 1)), (8, .int (((40 * a1) + a3) + (2 * a7))), (0, .ref 33), (1, .int a1), (2, .int a2), (3, .int a3), (4, .int a4), (5, .int a5), (7, .int a7)]) (tat ok_X9_read_2 (i := 24) (q := 184) rfl rfl) 7 rfl (ia ic_1) (Nat.le_of_ble_eq_true rfl) rfl <|
    V_pick [2, 3, 4, 5, 6, 7, 0, 8] rfl (V_X9_read_184_1  hr he hk (jq (P := oP P) kq (Eq.trans (if_pos c14) (Eq.trans (if_neg c15) (Eq.trans (if_neg c16) (Eq.trans (ob e17) (if_neg c18)))))))) (fun c18 => V_bipush (tat ok_X9_read_2 (i := 20) (q := 177) rfl rfl) bp_m20 <|
    V_iload (tat ok_X9_read_2 (i := 21) (q := 179) rfl rfl) 8 rfl <|
    V_isub (tat ok_X9_read_2 (i := 22) (q := 180) rfl rfl) <|
    V_iret (tat ok_X9_read_2 (i := 23) (q := 181) rfl rfl) _ rfl (nar_int _) (hr (((-20) - a7), I, L) (jq (P := oP P) kq (Eq.trans (if_pos c14) (Eq.trans (if_neg c15) (Eq.trans (if_neg c16) (Eq.trans (ob e17) (if_pos c18))))))) ⟨(Nat.le_of_ble_eq_true rfl), (Nat.le_of_ble_eq_true rfl)⟩)))))
def F_X9_read_47_1 (I : WI) (L : WL) (a1 : Int32) (a2 : Int32) (a3 : Int32) (a4 : Int32) (a5 : Int32) (a6 : Int32) (a7 : Int32) (a8 : Int32) : Option (((Int32 × WI × WL) ⊕ (Int32 × Int32)) ⊕ (Int32 × Int32 × Int32)) :=
  (lpp (fun x => (F_X9_read_47_2 I L a1 a2 a3 a4 a6 a7 (p1 x) (p2 x))) 4294967296 (a5, a8)).bind (fun q => (F_X9_read_134_1 I L a1 a2 a3 a4 q a6 a7))
theorem V_X9_read_47_1  {I : WI} {L : WL} {a1 : Int32} {a2 : Int32} {a3 : Int32} {a4 : Int32} {a5 : Int32} {a6 : Int32} {a7 : Int32} {a8 : Int32} {P : (((Int32 × WI × WL) ⊕ (Int32 × Int32)) ⊕ (Int32 × Int32 × Int32)) → Prop} {t : Tg} (hb8 : bz a8 = a8) (hr : ∀ v, P (.inl (.inl v)) → t = (some (.int (p1 v)), ly0, (p1 (p2 v)), (p2 (p2 v)), R0)) (he : ∀ x : (Int32 × Int32), P (.inl (.inr x)) → V (zM x_X9_read 4 0 0 t) 190 [(0, .ref 33), (1, .int a1), (2, .int a2), (3, .int a3), (4, .int a4), (5, .int (p1 x)), (6, .int (p2 x))] [] ly0 I L R0 0 0) (hk : ∀ x : (Int32 × Int32 × Int32), P (.inr x) → V (zM x_X9_read 4 0 0 t) 32 [(0, .ref 33), (1, .int a1), (2, .int a2), (3, .int a3), (4, .int a4), (5, .int (p1 x)), (6, .int (p1 (p2 x))), (7, .int (p2 (p2 x)))] [] ly0 I L R0 0 0) (kk : oP P (F_X9_read_47_1 I L a1 a2 a3 a4 a5 a6 a7 a8)) : V (zM x_X9_read 4 0 0 t) 47 [(0, .ref 33), (1, .int a1), (2, .int a2), (3, .int a3), (4, .int a4), (5, .int a5), (6, .int a6), (7, .int a7), (8, .int a8)] [] ly0 I L R0 0 0 :=
  V_lpp (fun x => (F_X9_read_47_2 I L a1 a2 a3 a4 a6 a7 (p1 x) (p2 x))) (fun x => V (zM x_X9_read 4 0 0 t) 47 [(0, .ref 33), (1, .int a1), (2, .int a2), (3, .int a3), (4, .int a4), (5, .int (p1 x)), (6, .int a6), (7, .int a7), (8, .int (p2 x))] [] ly0 I L R0 0 0) (fun x => oP P ((F_X9_read_134_1 I L a1 a2 a3 a4 x a6 a7))) (s := (a5, a8)) (fun x e0 => V_X9_read_47_2 (P := Sum.elim (fun x => oP P ((F_X9_read_134_1 I L a1 a2 a3 a4 x a6 a7))) (fun x => V (zM x_X9_read 4 0 0 t) 47 [(0, .ref 33), (1, .int a1), (2, .int a2), (3, .int a3), (4, .int a4), (5, .int (p1 x)), (6, .int a6), (7, .int a7), (8, .int (p2 x))] [] ly0 I L R0 0 0))  (fun x e => V_X9_read_134_1  hr he hk e) (fun _ e => e) e0) (oP_bind (f := fun q => _) kk)
def F_X9_read_32_1 (I : WI) (L : WL) (a1 : Int32) (a2 : Int32) (a3 : Int32) (a4 : Int32) (a5 : Int32) (a6 : Int32) (a7 : Int32) : Option (((Int32 × WI × WL) ⊕ (Int32 × Int32)) ⊕ (Int32 × Int32 × Int32)) :=
  (if a4 ≤ a7 then some (.inl (.inr (a5, a6))) else (if a5 = 0 then (F_X9_read_47_1 I L a1 a2 a3 a4 a5 a6 a7 0) else some (.inl (.inr (a5, a6)))))
theorem V_X9_read_32_1  {I : WI} {L : WL} {a1 : Int32} {a2 : Int32} {a3 : Int32} {a4 : Int32} {a5 : Int32} {a6 : Int32} {a7 : Int32} {P : (((Int32 × WI × WL) ⊕ (Int32 × Int32)) ⊕ (Int32 × Int32 × Int32)) → Prop} {t : Tg} (hr : ∀ v, P (.inl (.inl v)) → t = (some (.int (p1 v)), ly0, (p1 (p2 v)), (p2 (p2 v)), R0)) (he : ∀ x : (Int32 × Int32), P (.inl (.inr x)) → V (zM x_X9_read 4 0 0 t) 190 [(0, .ref 33), (1, .int a1), (2, .int a2), (3, .int a3), (4, .int a4), (5, .int (p1 x)), (6, .int (p2 x))] [] ly0 I L R0 0 0) (hk : ∀ x : (Int32 × Int32 × Int32), P (.inr x) → V (zM x_X9_read 4 0 0 t) 32 [(0, .ref 33), (1, .int a1), (2, .int a2), (3, .int a3), (4, .int a4), (5, .int (p1 x)), (6, .int (p1 (p2 x))), (7, .int (p2 (p2 x)))] [] ly0 I L R0 0 0) : oP P (F_X9_read_32_1 I L a1 a2 a3 a4 a5 a6 a7) → V (zM x_X9_read 4 0 0 t) 32 [(0, .ref 33), (1, .int a1), (2, .int a2), (3, .int a3), (4, .int a4), (5, .int a5), (6, .int a6), (7, .int a7)] [] ly0 I L R0 0 0 :=
  fun _ =>
  have kq : (oP P (F_X9_read_32_1 I L a1 a2 a3 a4 a5 a6 a7)) ∧ True := ⟨by assumption, trivial⟩
  V_iload (tat ok_X9_read_0 (i := 18) (q := 34) rfl rfl) 7 rfl <|
    V_iload (tat ok_X9_read_0 (i := 19) (q := 36) rfl rfl) 4 rfl <|
    V_icmp_ge (tat ok_X9_read_0 (i := 20) (q := 39) rfl rfl) rfl (fun c3 => V_pick [0, 1, 2, 3, 4, 5, 6] rfl (he (a5, a6) (jq (P := oP P) kq (if_pos c3)))) (fun c3 => V_iload (tat ok_X9_read_0 (i := 21) (q := 41) rfl rfl) 5 rfl <|
    V_if_ne (tat ok_X9_read_0 (i := 22) (q := 44) rfl rfl) rfl (fun c4 => V_pick [0, 1, 2, 3, 4, 5, 6] rfl (he (a5, a6) (jq (P := oP P) kq (Eq.trans (if_neg c3) (if_neg c4))))) (fun c4 => V_iconst (tat ok_X9_read_0 (i := 23) (q := 45) rfl rfl) ic_0 <|
    V_istore (lv' := [(8, .int 0), (0, .ref 33), (1, .int a1), (2, .int a2), (3, .int a3), (4, .int a4), (5, .int a5), (6, .int a6), (7, .int a7)]) (tat ok_X9_read_0 (i := 24) (q := 47) rfl rfl) (Nat.le_of_ble_eq_true rfl) rfl <|
    V_pick [1, 2, 3, 4, 5, 6, 7, 8, 0] rfl (V_X9_read_47_1 rfl hr he hk (jq (P := oP P) kq (Eq.trans (if_neg c3) (if_pos c4))))))
def F_X9_read_206_3 (I : WI) (L : WL) (a1 : Int32) (a2 : Int32) (a3 : Int32) (a4 : Int32) (a6 : Int32) (a7 : Int32) : Option WL :=
  (if (((40 * a1) + a3) + (2 * a7)) < 0 ∨ 160 ≤ Int32.toNatClampNeg (((40 * a1) + a3) + (2 * a7)) then none else (if ((((40 * a1) + a3) + (2 * a7)) + 1) < 0 ∨ 160 ≤ Int32.toNatClampNeg ((((40 * a1) + a3) + (2 * a7)) + 1) then none else some (u2 L 33 2 ((L 33 2) ^^^ (F_X9_actSet I (I 44 (Int32.toNatClampNeg (((40 * a1) + a3) + (2 * a7)))) (I 44 (Int32.toNatClampNeg ((((40 * a1) + a3) + (2 * a7)) + 1))))))))
theorem V_X9_read_206_3  {I : WI} {L : WL} {a1 : Int32} {a2 : Int32} {a3 : Int32} {a4 : Int32} {a6 : Int32} {a7 : Int32}  {P : WL → Prop} {t : Tg} (hk : ∀ x : WL, P x → V (zM x_X9_read 4 0 0 t) 199 [(0, .ref 33), (1, .int a1), (2, .int a2), (3, .int a3), (4, .int a4), (6, .int a6), (7, .int (a7 + 1))] [] ly0 I x R0 0 0) : oP P (F_X9_read_206_3 I L a1 a2 a3 a4 a6 a7) → V (zM x_X9_read 4 0 0 t) 206 [(0, .ref 33), (1, .int a1), (2, .int a2), (3, .int a3), (4, .int a4), (6, .int a6), (7, .int a7)] [] ly0 I L R0 0 0 :=
  fun _ =>
  have kq : (oP P (F_X9_read_206_3 I L a1 a2 a3 a4 a6 a7)) ∧ True := ⟨by assumption, trivial⟩
  V_bipush (tat ok_X9_read_2 (i := 35) (q := 208) rfl rfl) bp_40 <|
    V_iload_n (tat ok_X9_read_2 (i := 36) (q := 209) rfl rfl) 1 rfl rfl <|
    V_imul (tat ok_X9_read_2 (i := 37) (q := 210) rfl rfl) <|
    V_iload_n (tat ok_X9_read_2 (i := 38) (q := 211) rfl rfl) 3 rfl rfl <|
    V_iadd (tat ok_X9_read_2 (i := 39) (q := 212) rfl rfl) <|
    V_iconst (tat ok_X9_read_3 (i := 0) (q := 213) rfl rfl) ic_2 <|
    V_iload (tat ok_X9_read_3 (i := 1) (q := 215) rfl rfl) 6 rfl <|
    V_imul (tat ok_X9_read_3 (i := 2) (q := 216) rfl rfl) <|
    V_iadd (tat ok_X9_read_3 (i := 3) (q := 217) rfl rfl) <|
    V_istore (lv' := [(8, .int (((40 * a1) + a3) + (2 * a7))), (0, .ref 33), (1, .int a1), (2, .int a2), (3, .int a3), (4, .int a4), (6, .int a6), (7, .int a7)]) (tat ok_X9_read_3 (i := 4) (q := 219) rfl rfl) (Nat.le_of_ble_eq_true rfl) rfl <|
    V_aload_n (tat ok_X9_read_3 (i := 5) (q := 220) rfl rfl) 1 rfl rfl <|
    V_dup (tat ok_X9_read_3 (i := 6) (q := 221) rfl rfl) rfl <|
    V_getL (tat ok_X9_read_3 (i := 7) (q := 224) rfl rfl) fk_X9_80 rfl <|
    V_aload_n (tat ok_X9_read_3 (i := 8) (q := 225) rfl rfl) 1 rfl rfl <|
    V_aload_n (tat ok_X9_read_3 (i := 9) (q := 226) rfl rfl) 1 rfl rfl <|
    V_getR (tat ok_X9_read_3 (i := 10) (q := 229) rfl rfl) fk_X9_41 rfl rfl <|
    V_iload (tat ok_X9_read_3 (i := 11) (q := 231) rfl rfl) 0 rfl <|
    (if c19 : (((40 * a1) + a3) + (2 * a7)) < 0 ∨ 160 ≤ Int32.toNatClampNeg (((40 * a1) + a3) + (2 * a7)) then ((jq (P := oP P) kq (if_pos c19))).elim else V_iald (tat ok_X9_read_3 (i := 12) (q := 232) rfl rfl) rfl c19 <|
    V_aload_n (tat ok_X9_read_3 (i := 13) (q := 233) rfl rfl) 1 rfl rfl <|
    V_getR (tat ok_X9_read_3 (i := 14) (q := 236) rfl rfl) fk_X9_41 rfl rfl <|
    V_iload (tat ok_X9_read_3 (i := 15) (q := 238) rfl rfl) 0 rfl <|
    V_iconst (tat ok_X9_read_3 (i := 16) (q := 239) rfl rfl) ic_1 <|
    V_iadd (tat ok_X9_read_3 (i := 17) (q := 240) rfl rfl) <|
    (if c20 : ((((40 * a1) + a3) + (2 * a7)) + 1) < 0 ∨ 160 ≤ Int32.toNatClampNeg ((((40 * a1) + a3) + (2 * a7)) + 1) then ((jq (P := oP P) kq (Eq.trans (if_neg c19) (if_pos c20)))).elim else V_iald (tat ok_X9_read_3 (i := 18) (q := 241) rfl rfl) rfl c20 <|
    V_cv2 (ct_X9_actSet I L (I 44 (Int32.toNatClampNeg (((40 * a1) + a3) + (2 * a7)))) (I 44 (Int32.toNatClampNeg ((((40 * a1) + a3) + (2 * a7)) + 1))) ) mo_X9_actSet (tat ok_X9_read_3 (i := 19) (q := 244) rfl rfl) ml_X9_217 rfl ⟨by decide, _, rfl, rfl⟩ ⟨(Nat.le_of_ble_eq_true rfl), (Nat.le_of_ble_eq_true rfl)⟩ ⟨(Nat.le_of_ble_eq_true rfl), (Nat.le_of_ble_eq_true rfl)⟩ (Nat.le_of_ble_eq_true rfl) <|
    V_lxor (tat ok_X9_read_3 (i := 20) (q := 245) rfl rfl) <|
    V_putL (tat ok_X9_read_3 (i := 21) (q := 248) rfl rfl) fk_X9_80 rfl rfl <|
    V_iinc (v := (a7 + 1)) (lv' := [(7, .int (a7 + 1)), (8, .int (((40 * a1) + a3) + (2 * a7))), (0, .ref 33), (1, .int a1), (2, .int a2), (3, .int a3), (4, .int a4), (6, .int a6)]) (tat ok_X9_read_3 (i := 22) (q := 251) rfl rfl) 7 rfl (ia ic_1) (Nat.le_of_ble_eq_true rfl) rfl <|
    V_goto (tat ok_X9_read_3 (i := 23) (q := 254) rfl rfl) rfl <|
    V_pick [2, 3, 4, 5, 6, 7, 0] rfl (hk (u2 L 33 2 ((L 33 2) ^^^ (F_X9_actSet I (I 44 (Int32.toNatClampNeg (((40 * a1) + a3) + (2 * a7)))) (I 44 (Int32.toNatClampNeg ((((40 * a1) + a3) + (2 * a7)) + 1)))))) (jq (P := oP P) kq (Eq.trans (if_neg c19) (if_neg c20))))))
def F_X9_read_254 (I : WI) (L : WL) (a1 : Int32) (a2 : Int32) (a3 : Int32) (a4 : Int32) (a6 : Int32) : Option (Int32 × WI × WL) :=
  some (a6, I, L)
theorem V_X9_read_254  {I : WI} {L : WL} {a1 : Int32} {a2 : Int32} {a3 : Int32} {a4 : Int32} {a6 : Int32} {P : (Int32 × WI × WL) → Prop} {t : Tg} (hr : ∀ v, P v → t = (some (.int (p1 v)), ly0, (p1 (p2 v)), (p2 (p2 v)), R0)) : oP P (F_X9_read_254 I L a1 a2 a3 a4 a6) → V (zM x_X9_read 4 0 0 t) 254 [(0, .ref 33), (1, .int a1), (2, .int a2), (3, .int a3), (4, .int a4), (6, .int a6)] [] ly0 I L R0 0 0 :=
  fun _ =>
  have kq : (oP P (F_X9_read_254 I L a1 a2 a3 a4 a6)) ∧ True := ⟨by assumption, trivial⟩
  V_iload (tat ok_X9_read_3 (i := 24) (q := 256) rfl rfl) 5 rfl <|
    V_iret (tat ok_X9_read_3 (i := 25) (q := 257) rfl rfl) _ rfl (nar_int _) (hr (a6, I, L) (jq (P := oP P) kq rfl)) ⟨(Nat.le_of_ble_eq_true rfl), (Nat.le_of_ble_eq_true rfl)⟩
def F_X9_read_199 (I : WI) (L : WL) (a1 : Int32) (a2 : Int32) (a3 : Int32) (a4 : Int32) (a6 : Int32) (a7 : Int32) : Option (Int32 × WI × WL) :=
  (frp0 (fun i x => (F_X9_read_206_3 I x a1 a2 a3 a4 a6 i)) a6 (fu a7 a6) a7 L).bind (fun q => (F_X9_read_254 I (p2 q) a1 a2 a3 a4 a6))
theorem V_X9_read_199  {I : WI} {L : WL} {a1 : Int32} {a2 : Int32} {a3 : Int32} {a4 : Int32} {a6 : Int32} {a7 : Int32} {P : (Int32 × WI × WL) → Prop} {t : Tg} (hb7 : bz a7 = a7) (hr : ∀ v, P v → t = (some (.int (p1 v)), ly0, (p1 (p2 v)), (p2 (p2 v)), R0)) (kk : oP P (F_X9_read_199 I L a1 a2 a3 a4 a6 a7)) : V (zM x_X9_read 4 0 0 t) 199 [(0, .ref 33), (1, .int a1), (2, .int a2), (3, .int a3), (4, .int a4), (6, .int a6), (7, .int a7)] [] ly0 I L R0 0 0 :=
  V_frp0 (fun i x => (F_X9_read_206_3 I x a1 a2 a3 a4 a6 i)) a6 (fun i x => V (zM x_X9_read 4 0 0 t) 199 [(0, .ref 33), (1, .int a1), (2, .int a2), (3, .int a3), (4, .int a4), (6, .int a6), (7, .int i)] [] ly0 I x R0 0 0) (fun i x => oP P ((F_X9_read_254 I x a1 a2 a3 a4 a6))) (c := a7) (s := L) (fun i x kx kb => V_iload (tat ok_X9_read_2 (i := 32) (q := 201) rfl rfl) 6 rfl <|
    V_iload (tat ok_X9_read_2 (i := 33) (q := 203) rfl rfl) 5 rfl <|
    V_icmp_ge (tat ok_X9_read_2 (i := 34) (q := 206) rfl rfl) rfl (fun c0 => V_pick [0, 1, 2, 3, 4, 5] rfl (V_X9_read_254  hr (kx c0))) (fun c0 => V_X9_read_206_3 (P := (fun x => (fun i x => V (zM x_X9_read 4 0 0 t) 199 [(0, .ref 33), (1, .int a1), (2, .int a2), (3, .int a3), (4, .int a4), (6, .int a6), (7, .int i)] [] ly0 I x R0 0 0) (i + 1) x))  (fun _ e => e) (kb c0))) (oP_bind (f := fun q => _) kk)
def F_X9_read_190 (I : WI) (L : WL) (a1 : Int32) (a2 : Int32) (a3 : Int32) (a4 : Int32) (a5 : Int32) (a6 : Int32) : Option (Int32 × WI × WL) :=
  (F_X9_read_199 (u2 I 33 46 a5) L a1 a2 a3 a4 a6 0)
theorem V_X9_read_190  {I : WI} {L : WL} {a1 : Int32} {a2 : Int32} {a3 : Int32} {a4 : Int32} {a5 : Int32} {a6 : Int32} {P : (Int32 × WI × WL) → Prop} {t : Tg} (hr : ∀ v, P v → t = (some (.int (p1 v)), ly0, (p1 (p2 v)), (p2 (p2 v)), R0)) : oP P (F_X9_read_190 I L a1 a2 a3 a4 a5 a6) → V (zM x_X9_read 4 0 0 t) 190 [(0, .ref 33), (1, .int a1), (2, .int a2), (3, .int a3), (4, .int a4), (5, .int a5), (6, .int a6)] [] ly0 I L R0 0 0 :=
  fun _ =>
  have kq : (oP P (F_X9_read_190 I L a1 a2 a3 a4 a5 a6)) ∧ True := ⟨by assumption, trivial⟩
  V_aload_n (tat ok_X9_read_2 (i := 27) (q := 191) rfl rfl) 0 rfl rfl <|
    V_iload (tat ok_X9_read_2 (i := 28) (q := 193) rfl rfl) 5 rfl <|
    V_putI (tat ok_X9_read_2 (i := 29) (q := 196) rfl rfl) fk_X9_338 rfl rfl <|
    V_iconst (tat ok_X9_read_2 (i := 30) (q := 197) rfl rfl) ic_0 <|
    V_istore (lv' := [(7, .int 0), (0, .ref 33), (1, .int a1), (2, .int a2), (3, .int a3), (4, .int a4), (5, .int a5), (6, .int a6)]) (tat ok_X9_read_2 (i := 31) (q := 199) rfl rfl) (Nat.le_of_ble_eq_true rfl) rfl <|
    V_pick [1, 2, 3, 4, 5, 7, 0] rfl (V_X9_read_199 rfl hr (jq (P := oP P) kq rfl))
def F_X9_read_32 (I : WI) (L : WL) (a1 : Int32) (a2 : Int32) (a3 : Int32) (a4 : Int32) (a5 : Int32) (a6 : Int32) (a7 : Int32) : Option (Int32 × WI × WL) :=
  (lpp (fun x => (F_X9_read_32_1 I L a1 a2 a3 a4 (p1 x) (p1 (p2 x)) (p2 (p2 x)))) 4294967296 (a5, a6, a7)).bind (Sum.elim (fun r => some (r)) (fun q => (F_X9_read_190 I L a1 a2 a3 a4 (p1 q) (p2 q))))
theorem V_X9_read_32  {I : WI} {L : WL} {a1 : Int32} {a2 : Int32} {a3 : Int32} {a4 : Int32} {a5 : Int32} {a6 : Int32} {a7 : Int32} {P : (Int32 × WI × WL) → Prop} {t : Tg} (hb5 : bz a5 = a5) (hb6 : bz a6 = a6) (hb7 : bz a7 = a7) (hr : ∀ v, P v → t = (some (.int (p1 v)), ly0, (p1 (p2 v)), (p2 (p2 v)), R0)) (kk : oP P (F_X9_read_32 I L a1 a2 a3 a4 a5 a6 a7)) : V (zM x_X9_read 4 0 0 t) 32 [(0, .ref 33), (1, .int a1), (2, .int a2), (3, .int a3), (4, .int a4), (5, .int a5), (6, .int a6), (7, .int a7)] [] ly0 I L R0 0 0 :=
  V_lpp (fun x => (F_X9_read_32_1 I L a1 a2 a3 a4 (p1 x) (p1 (p2 x)) (p2 (p2 x)))) (fun x => V (zM x_X9_read 4 0 0 t) 32 [(0, .ref 33), (1, .int a1), (2, .int a2), (3, .int a3), (4, .int a4), (5, .int (p1 x)), (6, .int (p1 (p2 x))), (7, .int (p2 (p2 x)))] [] ly0 I L R0 0 0) (Sum.elim (fun r => P (r)) (fun x => oP P ((F_X9_read_190 I L a1 a2 a3 a4 (p1 x) (p2 x))))) (s := (a5, a6, a7)) (fun x e0 => V_X9_read_32_1 (P := Sum.elim (Sum.elim (fun r => P (r)) (fun x => oP P ((F_X9_read_190 I L a1 a2 a3 a4 (p1 x) (p2 x))))) (fun x => V (zM x_X9_read 4 0 0 t) 32 [(0, .ref 33), (1, .int a1), (2, .int a2), (3, .int a3), (4, .int a4), (5, .int (p1 x)), (6, .int (p1 (p2 x))), (7, .int (p2 (p2 x)))] [] ly0 I L R0 0 0))  (fun v e => hr v e) (fun x e => V_X9_read_190  hr e) (fun _ e => e) e0) (oP_sum kk)
def F_X9_read (I : WI) (L : WL) (a1 : Int32) (a2 : Int32) (a3 : Int32) (a4 : Int32) : Option (Int32 × WI × WL) :=
  (if (F_X9_isSheet a1 a2) = 0 then (F_X9_read_21 I L a1 a2 a3 a4) else (if (F_X9_in (Int32.toInt64 a4) 0 20) = 0 then (F_X9_read_21 I L a1 a2 a3 a4) else (F_X9_read_32 I L a1 a2 a3 a4 0 0 0)))
theorem V_X9_read  {I : WI} {L : WL} {a1 : Int32} {a2 : Int32} {a3 : Int32} {a4 : Int32}  {P : (Int32 × WI × WL) → Prop} {t : Tg} (hr : ∀ v, P v → t = (some (.int (p1 v)), ly0, (p1 (p2 v)), (p2 (p2 v)), R0)) : oP P (F_X9_read I L a1 a2 a3 a4) → V (zM x_X9_read 4 0 0 t) 0 [(0, .ref 33), (1, .int a1), (2, .int a2), (3, .int a3), (4, .int a4)] [] ly0 I L R0 0 0 :=
  fun _ =>
  have kq : (oP P (F_X9_read I L a1 a2 a3 a4)) ∧ True := ⟨by assumption, trivial⟩
  V_iload_n (tat ok_X9_read_0 (i := 0) (q := 1) rfl rfl) 1 rfl rfl <|
    V_iload_n (tat ok_X9_read_0 (i := 1) (q := 2) rfl rfl) 2 rfl rfl <|
    V_cs2 (ct_X9_isSheet I L a1 a2 ) mo_X9_isSheet (tat ok_X9_read_0 (i := 2) (q := 5) rfl rfl) ml_X9_333 ⟨(Nat.le_of_ble_eq_true rfl), (Nat.le_of_ble_eq_true rfl)⟩ ⟨(Nat.le_of_ble_eq_true rfl), (Nat.le_of_ble_eq_true rfl)⟩ (Nat.le_of_ble_eq_true rfl) <|
    V_if_eq (tat ok_X9_read_0 (i := 3) (q := 8) rfl rfl) rfl (fun c1 => V_X9_read_21  hr (jq (P := oP P) kq (if_pos c1))) (fun c1 => V_iload (tat ok_X9_read_0 (i := 4) (q := 10) rfl rfl) 4 rfl <|
    V_i2l (tat ok_X9_read_0 (i := 5) (q := 11) rfl rfl) <|
    V_lconst (v := 0) (tat ok_X9_read_0 (i := 6) (q := 12) rfl rfl) rfl <|
    V_ldc2 (tat ok_X9_read_0 (i := 7) (q := 15) rfl rfl) (gw_in kl_X9_336 rfl) <|
    V_cs3 (ct_X9_in I L (Int32.toInt64 a4) 0 20 ) mo_X9_in (tat ok_X9_read_0 (i := 8) (q := 18) rfl rfl) ml_X9_97 ⟨(Nat.le_of_ble_eq_true rfl), (Nat.le_of_ble_eq_true rfl)⟩ ⟨(Nat.le_of_ble_eq_true rfl), (Nat.le_of_ble_eq_true rfl)⟩ (Nat.le_of_ble_eq_true rfl) <|
    V_if_ne (tat ok_X9_read_0 (i := 9) (q := 21) rfl rfl) rfl (fun c2 => V_iconst (tat ok_X9_read_0 (i := 12) (q := 24) rfl rfl) ic_0 <|
    V_istore (lv' := [(5, .int 0), (0, .ref 33), (1, .int a1), (2, .int a2), (3, .int a3), (4, .int a4)]) (tat ok_X9_read_0 (i := 13) (q := 26) rfl rfl) (Nat.le_of_ble_eq_true rfl) rfl <|
    V_iconst (tat ok_X9_read_0 (i := 14) (q := 27) rfl rfl) ic_0 <|
    V_istore (lv' := [(6, .int 0), (5, .int 0), (0, .ref 33), (1, .int a1), (2, .int a2), (3, .int a3), (4, .int a4)]) (tat ok_X9_read_0 (i := 15) (q := 29) rfl rfl) (Nat.le_of_ble_eq_true rfl) rfl <|
    V_iconst (tat ok_X9_read_0 (i := 16) (q := 30) rfl rfl) ic_0 <|
    V_istore (lv' := [(7, .int 0), (6, .int 0), (5, .int 0), (0, .ref 33), (1, .int a1), (2, .int a2), (3, .int a3), (4, .int a4)]) (tat ok_X9_read_0 (i := 17) (q := 32) rfl rfl) (Nat.le_of_ble_eq_true rfl) rfl <|
    V_pick [3, 4, 5, 6, 7, 2, 1, 0] rfl (V_X9_read_32 rfl rfl rfl hr (jq (P := oP P) kq (Eq.trans (if_neg c1) (if_neg c2))))) (fun c2 => V_X9_read_21  hr (jq (P := oP P) kq (Eq.trans (if_neg c1) (if_pos c2)))))
theorem ct_X9_read  (I : WI) (L : WL) (a1 : Int32) (a2 : Int32) (a3 : Int32) (a4 : Int32)  {v : (Int32 × WI × WL)} (h : (F_X9_read I L a1 a2 a3 a4) = some v) : Ct x_X9_read 4 [.ref 33, .int a1, .int a2, .int a3, .int a4] ly0 I L R0 0 0 (some (.int (p1 v)), ly0, (p1 (p2 v)), (p2 (p2 v)), R0) :=
  Ct_of_V mo_X9_read.1 (Nat.le_of_ble_eq_true rfl) (V_X9_read (P := fun x => x = v)  (fun _ e => by rw [e]) (by rw [h]; exact rfl))
def F_X9_torn (I : WI) : Int32 :=
  (I 33 46)
theorem V_X9_torn  {I : WI} {L : WL}   {P : Int32 → Prop} {t : Tg} (hr : ∀ v, P v → t = (some (.int v), ly0, I, L, R0)) (kk : P (F_X9_torn I)) : V (zM x_X9_torn 1 0 0 t) 0 [(0, .ref 33)] [] ly0 I L R0 0 0 :=
  V_aload_n (tat ok_X9_torn_0 (i := 0) (q := 1) rfl rfl) 0 rfl rfl <|
    V_getI (tat ok_X9_torn_0 (i := 1) (q := 4) rfl rfl) fk_X9_338 rfl <|
    V_iret (tat ok_X9_torn_0 (i := 2) (q := 5) rfl rfl) _ rfl (nar_int _) (hr (I 33 46) (jx (P := P) kk rfl)) ⟨(Nat.le_of_ble_eq_true rfl), (Nat.le_of_ble_eq_true rfl)⟩
theorem ct_X9_torn  (I : WI) (L : WL)  : Ct x_X9_torn 1 [.ref 33] ly0 I L R0 0 0 (some (.int (F_X9_torn I)), ly0, I, L, R0) :=
  Ct_of_V mo_X9_torn.1 (Nat.le_of_ble_eq_true rfl) (V_X9_torn (P := fun x => x = (F_X9_torn I))  (fun _ e => by rw [e]) rfl)
def F_X9_count_82 (I : WI) (L : WL) (a1 : Int32) (s0 : Int32) : Option Int32 :=
  some s0
theorem V_X9_count_82  {I : WI} {L : WL} {a1 : Int32} {s0 : Int32} {P : Int32 → Prop} {t : Tg} (hr : ∀ v, P v → t = (some (.int v), ly0, I, L, R0)) : oP P (F_X9_count_82 I L a1 s0) → V (zM x_X9_count 2 0 0 t) 82 [(0, .ref 33), (1, .int a1)] [.int s0] ly0 I L R0 0 0 :=
  fun _ =>
  have kq : (oP P (F_X9_count_82 I L a1 s0)) ∧ True := ⟨by assumption, trivial⟩
  V_iret (tat ok_X9_count_0 (i := 23) (q := 83) rfl rfl) _ rfl (nar_int _) (hr s0 (jq (P := oP P) kq rfl)) ⟨(Nat.le_of_ble_eq_true rfl), (Nat.le_of_ble_eq_true rfl)⟩
def F_X9_count_128 (I : WI) (L : WL) (a1 : Int32) (s0 : Int32) : Option Int32 :=
  some s0
theorem V_X9_count_128  {I : WI} {L : WL} {a1 : Int32} {s0 : Int32} {P : Int32 → Prop} {t : Tg} (hr : ∀ v, P v → t = (some (.int v), ly0, I, L, R0)) : oP P (F_X9_count_128 I L a1 s0) → V (zM x_X9_count 2 0 0 t) 128 [(0, .ref 33), (1, .int a1)] [.int s0] ly0 I L R0 0 0 :=
  fun _ =>
  have kq : (oP P (F_X9_count_128 I L a1 s0)) ∧ True := ⟨by assumption, trivial⟩
  V_iret (tat ok_X9_count_1 (i := 9) (q := 129) rfl rfl) _ rfl (nar_int _) (hr s0 (jq (P := oP P) kq rfl)) ⟨(Nat.le_of_ble_eq_true rfl), (Nat.le_of_ble_eq_true rfl)⟩
def F_X9_count (I : WI) (L : WL) (a1 : Int32) : Option Int32 :=
  (if a1 = 0 then some (F_X9_many (L 33 2)) else (if a1 = 1 then some ((I 33 0) * (I 33 1)) else (if a1 = 2 then (if (bz (I 33 4)) = 0 then (F_X9_count_82 I L a1 (-4)) else (F_X9_count_82 I L a1 (F_X9_many ((L 33 2) ^^^ (L 33 3))))) else (if a1 = 3 then (Option.bind (F_X9_isKept I 0) (fun v8 => (Option.bind (F_X9_isKept I 1) (fun v9 => some ((F_X9_flag v8) + (F_X9_flag v9)))))) else (if a1 = 4 then some (I 33 21) else (if a1 = 5 then (if (I 42 (Int32.toNatClampNeg 0)) = (-4) then (F_X9_count_128 I L a1 (-4)) else (F_X9_count_128 I L a1 (I 43 (Int32.toNatClampNeg 0)))) else some (-1)))))))
theorem V_X9_count  {I : WI} {L : WL} {a1 : Int32}  {P : Int32 → Prop} {t : Tg} (hr : ∀ v, P v → t = (some (.int v), ly0, I, L, R0)) : oP P (F_X9_count I L a1) → V (zM x_X9_count 2 0 0 t) 0 [(0, .ref 33), (1, .int a1)] [] ly0 I L R0 0 0 :=
  fun _ =>
  have kq : (oP P (F_X9_count I L a1)) ∧ True := ⟨by assumption, trivial⟩
  V_iload_n (tat ok_X9_count_0 (i := 0) (q := 1) rfl rfl) 1 rfl rfl <|
    (if c1 : a1 = 0 then V_tswJ (tgt := 40) (off := 39) 0 (tat ok_X9_count_0 (i := 1) (q := 40) rfl rfl) (swj c1) ⟨rfl, by decide⟩ rfl (V_aload_n (tat ok_X9_count_0 (i := 2) (q := 41) rfl rfl) 0 rfl rfl <|
    V_getL (tat ok_X9_count_0 (i := 3) (q := 44) rfl rfl) fk_X9_80 rfl <|
    V_cs1 (ct_X9_many I L (L 33 2) ) mo_X9_many (tat ok_X9_count_0 (i := 4) (q := 47) rfl rfl) ml_X9_220 ⟨(Nat.le_of_ble_eq_true rfl), (Nat.le_of_ble_eq_true rfl)⟩ ⟨(Nat.le_of_ble_eq_true rfl), (Nat.le_of_ble_eq_true rfl)⟩ (Nat.le_of_ble_eq_true rfl) <|
    V_iret (tat ok_X9_count_0 (i := 5) (q := 48) rfl rfl) _ rfl (nar_int _) (hr (F_X9_many (L 33 2)) (jq (P := oP P) kq (if_pos c1))) ⟨(Nat.le_of_ble_eq_true rfl), (Nat.le_of_ble_eq_true rfl)⟩) else (if c2 : a1 = 1 then V_tswJ (tgt := 48) (off := 47) 1 (tat ok_X9_count_0 (i := 1) (q := 40) rfl rfl) (swj c2) ⟨rfl, by decide⟩ rfl (V_aload_n (tat ok_X9_count_0 (i := 6) (q := 49) rfl rfl) 0 rfl rfl <|
    V_getI (tat ok_X9_count_0 (i := 7) (q := 52) rfl rfl) fk_X9_74 rfl <|
    V_aload_n (tat ok_X9_count_0 (i := 8) (q := 53) rfl rfl) 0 rfl rfl <|
    V_getI (tat ok_X9_count_0 (i := 9) (q := 56) rfl rfl) fk_X9_77 rfl <|
    V_imul (tat ok_X9_count_0 (i := 10) (q := 57) rfl rfl) <|
    V_iret (tat ok_X9_count_0 (i := 11) (q := 58) rfl rfl) _ rfl (nar_int _) (hr ((I 33 0) * (I 33 1)) (jq (P := oP P) kq (Eq.trans (if_neg c1) (if_pos c2)))) ⟨(Nat.le_of_ble_eq_true rfl), (Nat.le_of_ble_eq_true rfl)⟩) else (if c3 : a1 = 2 then V_tswJ (tgt := 58) (off := 57) 2 (tat ok_X9_count_0 (i := 1) (q := 40) rfl rfl) (swj c3) ⟨rfl, by decide⟩ rfl (V_aload_n (tat ok_X9_count_0 (i := 12) (q := 59) rfl rfl) 0 rfl rfl <|
    V_getZ (tat ok_X9_count_0 (i := 13) (q := 62) rfl rfl) fk_X9_86 rfl <|
    V_if_eq (tat ok_X9_count_0 (i := 14) (q := 65) rfl rfl) rfl (fun c7 => V_bipush (tat ok_X9_count_0 (i := 22) (q := 82) rfl rfl) bp_m4 <|
    V_X9_count_82  hr (jq (P := oP P) kq (Eq.trans (if_neg c1) (Eq.trans (if_neg c2) (Eq.trans (if_pos c3) (if_pos c7)))))) (fun c7 => V_aload_n (tat ok_X9_count_0 (i := 15) (q := 66) rfl rfl) 0 rfl rfl <|
    V_getL (tat ok_X9_count_0 (i := 16) (q := 69) rfl rfl) fk_X9_80 rfl <|
    V_aload_n (tat ok_X9_count_0 (i := 17) (q := 70) rfl rfl) 0 rfl rfl <|
    V_getL (tat ok_X9_count_0 (i := 18) (q := 73) rfl rfl) fk_X9_83 rfl <|
    V_lxor (tat ok_X9_count_0 (i := 19) (q := 74) rfl rfl) <|
    V_cs1 (ct_X9_many I L ((L 33 2) ^^^ (L 33 3)) ) mo_X9_many (tat ok_X9_count_0 (i := 20) (q := 77) rfl rfl) ml_X9_220 ⟨(Nat.le_of_ble_eq_true rfl), (Nat.le_of_ble_eq_true rfl)⟩ ⟨(Nat.le_of_ble_eq_true rfl), (Nat.le_of_ble_eq_true rfl)⟩ (Nat.le_of_ble_eq_true rfl) <|
    V_goto (tat ok_X9_count_0 (i := 21) (q := 80) rfl rfl) rfl <|
    V_X9_count_82  hr (jq (P := oP P) kq (Eq.trans (if_neg c1) (Eq.trans (if_neg c2) (Eq.trans (if_pos c3) (if_neg c7))))))) else (if c4 : a1 = 3 then V_tswJ (tgt := 83) (off := 82) 3 (tat ok_X9_count_0 (i := 1) (q := 40) rfl rfl) (swj c4) ⟨rfl, by decide⟩ rfl (V_aload_n (tat ok_X9_count_0 (i := 24) (q := 84) rfl rfl) 0 rfl rfl <|
    V_iconst (tat ok_X9_count_0 (i := 25) (q := 85) rfl rfl) ic_0 <|
    oP_case (jq (P := oP P) kq (Eq.trans (if_neg c1) (Eq.trans (if_neg c2) (Eq.trans (if_neg c3) (if_pos c4))))) (fun v8 e8 _ => V_cv1 (ct_X9_isKept I L 0  e8) mo_X9_isKept (tat ok_X9_count_0 (i := 26) (q := 88) rfl rfl) ml_X9_239 rfl ⟨by decide, _, rfl, rfl⟩ ⟨(Nat.le_of_ble_eq_true rfl), (Nat.le_of_ble_eq_true rfl)⟩ ⟨(Nat.le_of_ble_eq_true rfl), (Nat.le_of_ble_eq_true rfl)⟩ (Nat.le_of_ble_eq_true rfl) <|
    V_cs1 (ct_X9_flag I L v8 ) mo_X9_flag (tat ok_X9_count_0 (i := 27) (q := 91) rfl rfl) ml_X9_200 ⟨(Nat.le_of_ble_eq_true rfl), (Nat.le_of_ble_eq_true rfl)⟩ ⟨(Nat.le_of_ble_eq_true rfl), (Nat.le_of_ble_eq_true rfl)⟩ (Nat.le_of_ble_eq_true rfl) <|
    V_aload_n (tat ok_X9_count_0 (i := 28) (q := 92) rfl rfl) 0 rfl rfl <|
    V_iconst (tat ok_X9_count_0 (i := 29) (q := 93) rfl rfl) ic_1 <|
    oP_case (jq (P := oP P) kq (Eq.trans (if_neg c1) (Eq.trans (if_neg c2) (Eq.trans (if_neg c3) (Eq.trans (if_pos c4) (ob e8)))))) (fun v9 e9 _ => V_cv1 (ct_X9_isKept I L 1  e9) mo_X9_isKept (tat ok_X9_count_0 (i := 30) (q := 96) rfl rfl) ml_X9_239 rfl ⟨by decide, _, rfl, rfl⟩ ⟨(Nat.le_of_ble_eq_true rfl), (Nat.le_of_ble_eq_true rfl)⟩ ⟨(Nat.le_of_ble_eq_true rfl), (Nat.le_of_ble_eq_true rfl)⟩ (Nat.le_of_ble_eq_true rfl) <|
    V_cs1 (ct_X9_flag I L v9 ) mo_X9_flag (tat ok_X9_count_0 (i := 31) (q := 99) rfl rfl) ml_X9_200 ⟨(Nat.le_of_ble_eq_true rfl), (Nat.le_of_ble_eq_true rfl)⟩ ⟨(Nat.le_of_ble_eq_true rfl), (Nat.le_of_ble_eq_true rfl)⟩ (Nat.le_of_ble_eq_true rfl) <|
    V_iadd (tat ok_X9_count_0 (i := 32) (q := 100) rfl rfl) <|
    V_iret (tat ok_X9_count_0 (i := 33) (q := 101) rfl rfl) _ rfl (nar_int _) (hr ((F_X9_flag v8) + (F_X9_flag v9)) (jq (P := oP P) kq (Eq.trans (if_neg c1) (Eq.trans (if_neg c2) (Eq.trans (if_neg c3) (Eq.trans (if_pos c4) (Eq.trans (ob e8) (ob e9)))))))) ⟨(Nat.le_of_ble_eq_true rfl), (Nat.le_of_ble_eq_true rfl)⟩))) else (if c5 : a1 = 4 then V_tswJ (tgt := 101) (off := 100) 4 (tat ok_X9_count_0 (i := 1) (q := 40) rfl rfl) (swj c5) ⟨rfl, by decide⟩ rfl (V_aload_n (tat ok_X9_count_0 (i := 34) (q := 102) rfl rfl) 0 rfl rfl <|
    V_getI (tat ok_X9_count_0 (i := 35) (q := 105) rfl rfl) fk_X9_92 rfl <|
    V_iret (tat ok_X9_count_0 (i := 36) (q := 106) rfl rfl) _ rfl (nar_int _) (hr (I 33 21) (jq (P := oP P) kq (Eq.trans (if_neg c1) (Eq.trans (if_neg c2) (Eq.trans (if_neg c3) (Eq.trans (if_neg c4) (if_pos c5))))))) ⟨(Nat.le_of_ble_eq_true rfl), (Nat.le_of_ble_eq_true rfl)⟩) else (if c6 : a1 = 5 then V_tswJ (tgt := 106) (off := 105) 5 (tat ok_X9_count_0 (i := 1) (q := 40) rfl rfl) (swj c6) ⟨rfl, by decide⟩ rfl (V_aload_n (tat ok_X9_count_0 (i := 37) (q := 107) rfl rfl) 0 rfl rfl <|
    V_getR (tat ok_X9_count_0 (i := 38) (q := 110) rfl rfl) fk_X9_35 rfl rfl <|
    V_iconst (tat ok_X9_count_0 (i := 39) (q := 111) rfl rfl) ic_0 <|
    V_iald (tat ok_X9_count_1 (i := 0) (q := 112) rfl rfl) rfl (vp_in_nI (n := 0) (by decide) (by decide)) <|
    V_bipush (tat ok_X9_count_1 (i := 1) (q := 114) rfl rfl) bp_m4 <|
    V_icmp_ne (tat ok_X9_count_1 (i := 2) (q := 117) rfl rfl) rfl (fun c10 => V_aload_n (tat ok_X9_count_1 (i := 5) (q := 123) rfl rfl) 0 rfl rfl <|
    V_getR (tat ok_X9_count_1 (i := 6) (q := 126) rfl rfl) fk_X9_38 rfl rfl <|
    V_iconst (tat ok_X9_count_1 (i := 7) (q := 127) rfl rfl) ic_0 <|
    V_iald (tat ok_X9_count_1 (i := 8) (q := 128) rfl rfl) rfl (vp_in_nI (n := 0) (by decide) (by decide)) <|
    V_X9_count_128  hr (jq (P := oP P) kq (Eq.trans (if_neg c1) (Eq.trans (if_neg c2) (Eq.trans (if_neg c3) (Eq.trans (if_neg c4) (Eq.trans (if_neg c5) (Eq.trans (if_pos c6) (if_neg c10))))))))) (fun c10 => V_bipush (tat ok_X9_count_1 (i := 3) (q := 119) rfl rfl) bp_m4 <|
    V_goto (tat ok_X9_count_1 (i := 4) (q := 122) rfl rfl) rfl <|
    V_X9_count_128  hr (jq (P := oP P) kq (Eq.trans (if_neg c1) (Eq.trans (if_neg c2) (Eq.trans (if_neg c3) (Eq.trans (if_neg c4) (Eq.trans (if_neg c5) (Eq.trans (if_pos c6) (if_pos c10)))))))))) else V_tswD (tgt := 129) (tat ok_X9_count_0 (i := 1) (q := 40) rfl rfl) (sw6 c1 c2 c3 c4 c5 c6) rfl (V_iconst (tat ok_X9_count_1 (i := 10) (q := 130) rfl rfl) ic_m1 <|
    V_iret (tat ok_X9_count_1 (i := 11) (q := 131) rfl rfl) _ rfl (nar_int _) (hr (-1) (jq (P := oP P) kq (Eq.trans (if_neg c1) (Eq.trans (if_neg c2) (Eq.trans (if_neg c3) (Eq.trans (if_neg c4) (Eq.trans (if_neg c5) (if_neg c6)))))))) ⟨(Nat.le_of_ble_eq_true rfl), (Nat.le_of_ble_eq_true rfl)⟩)))))))
theorem ct_X9_count  (I : WI) (L : WL) (a1 : Int32)  {v : Int32} (h : (F_X9_count I L a1) = some v) : Ct x_X9_count 2 [.ref 33, .int a1] ly0 I L R0 0 0 (some (.int v), ly0, I, L, R0) :=
  Ct_of_V mo_X9_count.1 (Nat.le_of_ble_eq_true rfl) (V_X9_count (P := fun x => x = v)  (fun _ e => by rw [e]) (by rw [h]; exact rfl))
