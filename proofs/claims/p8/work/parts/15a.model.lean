def F_X9_in_18 (a0 : Int64) (a2 : Int64) (a4 : Int64) (s0 : Int32) : Int32 :=
  s0
theorem V_X9_in_18  {I : WI} {L : WL} {a0 : Int64} {a2 : Int64} {a4 : Int64} {s0 : Int32} {P : Int32 → Prop} {t : Tg} (hs0 : bz s0 = s0) (hr : ∀ v, P v → t = (some (.int v), ly0, I, L, R0)) (kk : P (F_X9_in_18 a0 a2 a4 s0)) : V (zM x_X9_in 1 0 0 t) 18 [(0, .long a0), (2, .long a2), (4, .long a4)] [.int s0] ly0 I L R0 0 0 :=
  V_iret (tat ok_X9_in_0 (i := 11) (q := 19) rfl rfl) _ rfl (bz_nf hs0).1 (hr s0 (jx (P := P) kk rfl)) ⟨(Nat.le_of_ble_eq_true rfl), (Nat.le_of_ble_eq_true rfl)⟩
def F_X9_in_17 (a0 : Int64) (a2 : Int64) (a4 : Int64) : Int32 :=
  (F_X9_in_18 a0 a2 a4 0)
theorem V_X9_in_17  {I : WI} {L : WL} {a0 : Int64} {a2 : Int64} {a4 : Int64}  {P : Int32 → Prop} {t : Tg} (hr : ∀ v, P v → t = (some (.int v), ly0, I, L, R0)) (kk : P (F_X9_in_17 a0 a2 a4)) : V (zM x_X9_in 1 0 0 t) 17 [(0, .long a0), (2, .long a2), (4, .long a4)] [] ly0 I L R0 0 0 :=
  V_iconst (tat ok_X9_in_0 (i := 10) (q := 18) rfl rfl) ic_0 <|
    V_X9_in_18 rfl hr (jx (P := P) kk rfl)
def F_X9_in (a0 : Int64) (a2 : Int64) (a4 : Int64) : Int32 :=
  (if (lg_cmp a0 a2) < 0 then (F_X9_in_17 a0 a2 a4) else (if 0 < (lg_cmp a0 a4) then (F_X9_in_17 a0 a2 a4) else (F_X9_in_18 a0 a2 a4 1)))
theorem V_X9_in  {I : WI} {L : WL} {a0 : Int64} {a2 : Int64} {a4 : Int64}  {P : Int32 → Prop} {t : Tg} (hr : ∀ v, P v → t = (some (.int v), ly0, I, L, R0)) (kk : P (F_X9_in a0 a2 a4)) : V (zM x_X9_in 1 0 0 t) 0 [(0, .long a0), (2, .long a2), (4, .long a4)] [] ly0 I L R0 0 0 :=
  V_lload_n (tat ok_X9_in_0 (i := 0) (q := 1) rfl rfl) 0 rfl rfl <|
    V_lload_n (tat ok_X9_in_0 (i := 1) (q := 2) rfl rfl) 1 rfl rfl <|
    V_lcmp (tat ok_X9_in_0 (i := 2) (q := 3) rfl rfl) <|
    V_if_lt (tat ok_X9_in_0 (i := 3) (q := 6) rfl rfl) rfl (fun c1 => V_X9_in_17  hr (jx (P := P) kk (if_pos c1))) (fun c1 => V_lload_n (tat ok_X9_in_0 (i := 4) (q := 7) rfl rfl) 0 rfl rfl <|
    V_lload (tat ok_X9_in_0 (i := 5) (q := 9) rfl rfl) 2 rfl <|
    V_lcmp (tat ok_X9_in_0 (i := 6) (q := 10) rfl rfl) <|
    V_if_gt (tat ok_X9_in_0 (i := 7) (q := 13) rfl rfl) rfl (fun c2 => V_X9_in_17  hr (jx (P := P) kk (Eq.trans (if_neg c1) (if_pos c2)))) (fun c2 => V_iconst (tat ok_X9_in_0 (i := 8) (q := 14) rfl rfl) ic_1 <|
    V_goto (tat ok_X9_in_0 (i := 9) (q := 17) rfl rfl) rfl <|
    V_X9_in_18 rfl hr (jx (P := P) kk (Eq.trans (if_neg c1) (if_neg c2)))))
theorem ct_X9_in  (I : WI) (L : WL) (a0 : Int64) (a2 : Int64) (a4 : Int64)  : Ct x_X9_in 1 [.long a0, .long a2, .long a4] ly0 I L R0 0 0 (some (.int (F_X9_in a0 a2 a4)), ly0, I, L, R0) :=
  Ct_of_V mo_X9_in.1 (Nat.le_of_ble_eq_true rfl) (V_X9_in (P := fun x => x = (F_X9_in a0 a2 a4))  (fun _ e => by rw [e]) rfl)
def F_X9_flag_9 (a0 : Int32) (s0 : Int32) : Int32 :=
  s0
theorem V_X9_flag_9  {I : WI} {L : WL} {a0 : Int32} {s0 : Int32} {P : Int32 → Prop} {t : Tg} (hs0 : bz s0 = s0) (hr : ∀ v, P v → t = (some (.int v), ly0, I, L, R0)) (kk : P (F_X9_flag_9 a0 s0)) : V (zM x_X9_flag 1 0 0 t) 9 [(0, .int a0)] [.int s0] ly0 I L R0 0 0 :=
  V_iret (tat ok_X9_flag_0 (i := 5) (q := 10) rfl rfl) _ rfl (nar_int _) (hr s0 (jx (P := P) kk rfl)) ⟨(Nat.le_of_ble_eq_true rfl), (Nat.le_of_ble_eq_true rfl)⟩
def F_X9_flag (a0 : Int32) : Int32 :=
  (if a0 = 0 then (F_X9_flag_9 a0 0) else (F_X9_flag_9 a0 1))
theorem V_X9_flag  {I : WI} {L : WL} {a0 : Int32}  {P : Int32 → Prop} {t : Tg} (hr : ∀ v, P v → t = (some (.int v), ly0, I, L, R0)) (kk : P (F_X9_flag a0)) : V (zM x_X9_flag 1 0 0 t) 0 [(0, .int a0)] [] ly0 I L R0 0 0 :=
  V_iload_n (tat ok_X9_flag_0 (i := 0) (q := 1) rfl rfl) 0 rfl rfl <|
    V_if_eq (tat ok_X9_flag_0 (i := 1) (q := 4) rfl rfl) rfl (fun c1 => V_iconst (tat ok_X9_flag_0 (i := 4) (q := 9) rfl rfl) ic_0 <|
    V_X9_flag_9 rfl hr (jx (P := P) kk (if_pos c1))) (fun c1 => V_iconst (tat ok_X9_flag_0 (i := 2) (q := 5) rfl rfl) ic_1 <|
    V_goto (tat ok_X9_flag_0 (i := 3) (q := 8) rfl rfl) rfl <|
    V_X9_flag_9 rfl hr (jx (P := P) kk (if_neg c1)))
theorem ct_X9_flag  (I : WI) (L : WL) (a0 : Int32)  : Ct x_X9_flag 1 [.int a0] ly0 I L R0 0 0 (some (.int (F_X9_flag a0)), ly0, I, L, R0) :=
  Ct_of_V mo_X9_flag.1 (Nat.le_of_ble_eq_true rfl) (V_X9_flag (P := fun x => x = (F_X9_flag a0))  (fun _ e => by rw [e]) rfl)
def F_X9_bitOf (a0 : Int32) (a1 : Int32) : Int64 :=
  (lsh 1 ((8 * a0) + a1))
theorem V_X9_bitOf  {I : WI} {L : WL} {a0 : Int32} {a1 : Int32}  {P : Int64 → Prop} {t : Tg} (hr : ∀ v, P v → t = (some (.long v), ly0, I, L, R0)) (kk : P (F_X9_bitOf a0 a1)) : V (zM x_X9_bitOf 1 0 0 t) 0 [(0, .int a0), (1, .int a1)] [] ly0 I L R0 0 0 :=
  V_lconst (v := 1) (tat ok_X9_bitOf_0 (i := 0) (q := 1) rfl rfl) rfl <|
    V_bipush (tat ok_X9_bitOf_0 (i := 1) (q := 3) rfl rfl) bp_8 <|
    V_iload_n (tat ok_X9_bitOf_0 (i := 2) (q := 4) rfl rfl) 0 rfl rfl <|
    V_imul (tat ok_X9_bitOf_0 (i := 3) (q := 5) rfl rfl) <|
    V_iload_n (tat ok_X9_bitOf_0 (i := 4) (q := 6) rfl rfl) 1 rfl rfl <|
    V_iadd (tat ok_X9_bitOf_0 (i := 5) (q := 7) rfl rfl) <|
    V_lshl (tat ok_X9_bitOf_0 (i := 6) (q := 8) rfl rfl) <|
    V_lret (tat ok_X9_bitOf_0 (i := 7) (q := 9) rfl rfl) rfl (hr (lsh 1 ((8 * a0) + a1)) (jx (P := P) kk rfl)) ⟨(Nat.le_of_ble_eq_true rfl), (Nat.le_of_ble_eq_true rfl)⟩
theorem ct_X9_bitOf  (I : WI) (L : WL) (a0 : Int32) (a1 : Int32)  : Ct x_X9_bitOf 1 [.int a0, .int a1] ly0 I L R0 0 0 (some (.long (F_X9_bitOf a0 a1)), ly0, I, L, R0) :=
  Ct_of_V mo_X9_bitOf.1 (Nat.le_of_ble_eq_true rfl) (V_X9_bitOf (P := fun x => x = (F_X9_bitOf a0 a1))  (fun _ e => by rw [e]) rfl)
def F_X9_many_10_1 (a0 : Int64) (a3 : Int32) (a2 : Int32) : Int32 :=
  (a2 + (Int64.toInt32 ((lsr a0 a3) &&& 1)))
theorem V_X9_many_10_1  {I : WI} {L : WL} {a0 : Int64} {a3 : Int32} {a2 : Int32} {P : Int32 → Prop} {t : Tg} (hk : ∀ x : Int32, P x → V (zM x_X9_many 1 0 0 t) 4 [(0, .long a0), (2, .int x), (3, .int (a3 + 1))] [] ly0 I L R0 0 0) (kk : P (F_X9_many_10_1 a0 a3 a2)) : V (zM x_X9_many 1 0 0 t) 10 [(0, .long a0), (2, .int a2), (3, .int a3)] [] ly0 I L R0 0 0 :=
  V_iload_n (tat ok_X9_many_0 (i := 7) (q := 11) rfl rfl) 1 rfl rfl <|
    V_lload_n (tat ok_X9_many_0 (i := 8) (q := 12) rfl rfl) 0 rfl rfl <|
    V_iload_n (tat ok_X9_many_0 (i := 9) (q := 13) rfl rfl) 2 rfl rfl <|
    V_lshr (tat ok_X9_many_0 (i := 10) (q := 14) rfl rfl) <|
    V_lconst (v := 1) (tat ok_X9_many_0 (i := 11) (q := 15) rfl rfl) rfl <|
    V_land (tat ok_X9_many_0 (i := 12) (q := 16) rfl rfl) <|
    V_l2i (tat ok_X9_many_0 (i := 13) (q := 17) rfl rfl) <|
    V_iadd (tat ok_X9_many_0 (i := 14) (q := 18) rfl rfl) <|
    V_istore_n (lv' := [(2, .int (a2 + (Int64.toInt32 ((lsr a0 a3) &&& 1)))), (0, .long a0), (3, .int a3)]) (tat ok_X9_many_0 (i := 15) (q := 19) rfl rfl) rfl (Nat.le_of_ble_eq_true rfl) rfl <|
    V_iinc (v := (a3 + 1)) (lv' := [(3, .int (a3 + 1)), (2, .int (a2 + (Int64.toInt32 ((lsr a0 a3) &&& 1)))), (0, .long a0)]) (tat ok_X9_many_0 (i := 16) (q := 22) rfl rfl) 2 rfl (ia ic_1) (Nat.le_of_ble_eq_true rfl) rfl <|
    V_goto (tat ok_X9_many_0 (i := 17) (q := 25) rfl rfl) rfl <|
    V_pick [2, 1, 0] rfl (hk (a2 + (Int64.toInt32 ((lsr a0 a3) &&& 1))) (jx (P := P) kk rfl))
def F_X9_many_25 (a0 : Int64) (a2 : Int32) : Int32 :=
  a2
theorem V_X9_many_25  {I : WI} {L : WL} {a0 : Int64} {a2 : Int32} {P : Int32 → Prop} {t : Tg} (hr : ∀ v, P v → t = (some (.int v), ly0, I, L, R0)) (kk : P (F_X9_many_25 a0 a2)) : V (zM x_X9_many 1 0 0 t) 25 [(0, .long a0), (2, .int a2)] [] ly0 I L R0 0 0 :=
  V_iload_n (tat ok_X9_many_0 (i := 18) (q := 26) rfl rfl) 1 rfl rfl <|
    V_iret (tat ok_X9_many_0 (i := 19) (q := 27) rfl rfl) _ rfl (nar_int _) (hr a2 (jx (P := P) kk rfl)) ⟨(Nat.le_of_ble_eq_true rfl), (Nat.le_of_ble_eq_true rfl)⟩
def F_X9_many_4 (a0 : Int64) (a2 : Int32) (a3 : Int32) : Int32 :=
  (fun q : Int32 × Int32 => (F_X9_many_25 a0 (p2 q))) (fr0 (fun i x => (F_X9_many_10_1 a0 i x)) 64 (fu a3 64) a3 a2)
theorem V_X9_many_4  {I : WI} {L : WL} {a0 : Int64} {a2 : Int32} {a3 : Int32} {P : Int32 → Prop} {t : Tg} (hb2 : bz a2 = a2) (hb3 : bz a3 = a3) (hr : ∀ v, P v → t = (some (.int v), ly0, I, L, R0)) (kk : P (F_X9_many_4 a0 a2 a3)) : V (zM x_X9_many 1 0 0 t) 4 [(0, .long a0), (2, .int a2), (3, .int a3)] [] ly0 I L R0 0 0 :=
  V_fr0 (fun i x => (F_X9_many_10_1 a0 i x)) 64 (fun i x => V (zM x_X9_many 1 0 0 t) 4 [(0, .long a0), (2, .int x), (3, .int i)] [] ly0 I L R0 0 0) (fun i x => P ((F_X9_many_25 a0 x))) (c := a3) (s := a2) (fun i x kx kb => V_iload_n (tat ok_X9_many_0 (i := 4) (q := 5) rfl rfl) 2 rfl rfl <|
    V_bipush (tat ok_X9_many_0 (i := 5) (q := 7) rfl rfl) bp_64 <|
    V_icmp_ge (tat ok_X9_many_0 (i := 6) (q := 10) rfl rfl) rfl (fun c0 => V_pick [0, 1] rfl (V_X9_many_25  hr (kx c0))) (fun c0 => V_X9_many_10_1 (P := (fun x => (fun i x => V (zM x_X9_many 1 0 0 t) 4 [(0, .long a0), (2, .int x), (3, .int i)] [] ly0 I L R0 0 0) (i + 1) x))  (fun _ e => e) (kb c0))) kk
def F_X9_many (a0 : Int64) : Int32 :=
  (F_X9_many_4 a0 0 0)
theorem V_X9_many  {I : WI} {L : WL} {a0 : Int64}  {P : Int32 → Prop} {t : Tg} (hr : ∀ v, P v → t = (some (.int v), ly0, I, L, R0)) (kk : P (F_X9_many a0)) : V (zM x_X9_many 1 0 0 t) 0 [(0, .long a0)] [] ly0 I L R0 0 0 :=
  V_iconst (tat ok_X9_many_0 (i := 0) (q := 1) rfl rfl) ic_0 <|
    V_istore_n (lv' := [(2, .int 0), (0, .long a0)]) (tat ok_X9_many_0 (i := 1) (q := 2) rfl rfl) rfl (Nat.le_of_ble_eq_true rfl) rfl <|
    V_iconst (tat ok_X9_many_0 (i := 2) (q := 3) rfl rfl) ic_0 <|
    V_istore_n (lv' := [(3, .int 0), (2, .int 0), (0, .long a0)]) (tat ok_X9_many_0 (i := 3) (q := 4) rfl rfl) rfl (Nat.le_of_ble_eq_true rfl) rfl <|
    V_pick [2, 1, 0] rfl (V_X9_many_4 rfl rfl hr (jx (P := P) kk rfl))
theorem ct_X9_many  (I : WI) (L : WL) (a0 : Int64)  : Ct x_X9_many 1 [.long a0] ly0 I L R0 0 0 (some (.int (F_X9_many a0)), ly0, I, L, R0) :=
  Ct_of_V mo_X9_many.1 (Nat.le_of_ble_eq_true rfl) (V_X9_many (P := fun x => x = (F_X9_many a0))  (fun _ e => by rw [e]) rfl)
def F_X9_firstDraft (I : WI) (L : WL) : (WI × WL) :=
  ((u2 (u2 (u2 (u2 (u2 I 33 10 4) 33 11 4) 33 16 0) 33 17 0) 33 18 0), (u2 (u2 L 33 12 0) 33 15 0))
theorem V_X9_firstDraft  {I : WI} {L : WL}   {P : (WI × WL) → Prop} {t : Tg} (hr : ∀ v, P v → t = (none, ly0, (p1 v), (p2 v), R0)) (kk : P (F_X9_firstDraft I L)) : V (zM x_X9_firstDraft 1 0 0 t) 0 [(0, .ref 33)] [] ly0 I L R0 0 0 :=
  V_aload_n (tat ok_X9_firstDraft_0 (i := 0) (q := 1) rfl rfl) 0 rfl rfl <|
    V_iconst (tat ok_X9_firstDraft_0 (i := 1) (q := 2) rfl rfl) ic_4 <|
    V_putI (tat ok_X9_firstDraft_0 (i := 2) (q := 5) rfl rfl) fk_X9_50 rfl rfl <|
    V_aload_n (tat ok_X9_firstDraft_0 (i := 3) (q := 6) rfl rfl) 0 rfl rfl <|
    V_iconst (tat ok_X9_firstDraft_0 (i := 4) (q := 7) rfl rfl) ic_4 <|
    V_putI (tat ok_X9_firstDraft_0 (i := 5) (q := 10) rfl rfl) fk_X9_54 rfl rfl <|
    V_aload_n (tat ok_X9_firstDraft_0 (i := 6) (q := 11) rfl rfl) 0 rfl rfl <|
    V_lconst (v := 0) (tat ok_X9_firstDraft_0 (i := 7) (q := 12) rfl rfl) rfl <|
    V_putL (tat ok_X9_firstDraft_0 (i := 8) (q := 15) rfl rfl) fk_X9_57 rfl rfl <|
    V_aload_n (tat ok_X9_firstDraft_0 (i := 9) (q := 16) rfl rfl) 0 rfl rfl <|
    V_lconst (v := 0) (tat ok_X9_firstDraft_0 (i := 10) (q := 17) rfl rfl) rfl <|
    V_putL (tat ok_X9_firstDraft_0 (i := 11) (q := 20) rfl rfl) fk_X9_61 rfl rfl <|
    V_aload_n (tat ok_X9_firstDraft_0 (i := 12) (q := 21) rfl rfl) 0 rfl rfl <|
    V_iconst (tat ok_X9_firstDraft_0 (i := 13) (q := 22) rfl rfl) ic_0 <|
    V_putZ (tat ok_X9_firstDraft_0 (i := 14) (q := 25) rfl rfl) fk_X9_64 rfl rfl rfl <|
    V_aload_n (tat ok_X9_firstDraft_0 (i := 15) (q := 26) rfl rfl) 0 rfl rfl <|
    V_iconst (tat ok_X9_firstDraft_0 (i := 16) (q := 27) rfl rfl) ic_0 <|
    V_putZ (tat ok_X9_firstDraft_0 (i := 17) (q := 30) rfl rfl) fk_X9_68 rfl rfl rfl <|
    V_aload_n (tat ok_X9_firstDraft_0 (i := 18) (q := 31) rfl rfl) 0 rfl rfl <|
    V_iconst (tat ok_X9_firstDraft_0 (i := 19) (q := 32) rfl rfl) ic_0 <|
    V_putI (tat ok_X9_firstDraft_0 (i := 20) (q := 35) rfl rfl) fk_X9_71 rfl rfl <|
    V_vret (tat ok_X9_firstDraft_0 (i := 21) (q := 36) rfl rfl) rfl (hr ((u2 (u2 (u2 (u2 (u2 I 33 10 4) 33 11 4) 33 16 0) 33 17 0) 33 18 0), (u2 (u2 L 33 12 0) 33 15 0)) (jx (P := P) kk rfl)) ⟨(Nat.le_of_ble_eq_true rfl), (Nat.le_of_ble_eq_true rfl)⟩
theorem ct_X9_firstDraft  (I : WI) (L : WL)  : Ct x_X9_firstDraft 1 [.ref 33] ly0 I L R0 0 0 (none, ly0, (p1 (F_X9_firstDraft I L)), (p2 (F_X9_firstDraft I L)), R0) :=
  Ct_of_V mo_X9_firstDraft.1 (Nat.le_of_ble_eq_true rfl) (V_X9_firstDraft (P := fun x => x = (F_X9_firstDraft I L))  (fun _ e => by rw [e]) rfl)
def F_X9_keepDraft_56_1 (I : WI) (L : WL) (a1 : Int32) : Option WI :=
  (if a1 < 0 ∨ 48 ≤ Int32.toNatClampNeg a1 then none else (if a1 < 0 ∨ 48 ≤ Int32.toNatClampNeg a1 then none else some (u2 I 34 (Int32.toNatClampNeg a1) (I 38 (Int32.toNatClampNeg a1)))))
theorem V_X9_keepDraft_56_1  {I : WI} {L : WL} {a1 : Int32}  {P : WI → Prop} {t : Tg} (hk : ∀ x : WI, P x → V (zM x_X9_keepDraft 1 0 0 t) 50 [(0, .ref 33), (1, .int (a1 + 1))] [] ly0 x L R0 0 0) (kk : oP P (F_X9_keepDraft_56_1 I L a1)) : V (zM x_X9_keepDraft 1 0 0 t) 56 [(0, .ref 33), (1, .int a1)] [] ly0 I L R0 0 0 :=
  V_aload_n (tat ok_X9_keepDraft_0 (i := 29) (q := 57) rfl rfl) 0 rfl rfl <|
    V_getR (tat ok_X9_keepDraft_0 (i := 30) (q := 60) rfl rfl) fk_X9_7 rfl rfl <|
    V_iload_n (tat ok_X9_keepDraft_0 (i := 31) (q := 61) rfl rfl) 1 rfl rfl <|
    V_aload_n (tat ok_X9_keepDraft_0 (i := 32) (q := 62) rfl rfl) 0 rfl rfl <|
    V_getR (tat ok_X9_keepDraft_0 (i := 33) (q := 65) rfl rfl) fk_X9_23 rfl rfl <|
    V_iload_n (tat ok_X9_keepDraft_0 (i := 34) (q := 66) rfl rfl) 1 rfl rfl <|
    (if c1 : a1 < 0 ∨ 48 ≤ Int32.toNatClampNeg a1 then ((jx (P := oP P) kk (if_pos c1))).elim else V_iald (tat ok_X9_keepDraft_0 (i := 35) (q := 67) rfl rfl) rfl c1 <|
    (if c2 : a1 < 0 ∨ 48 ≤ Int32.toNatClampNeg a1 then ((jx (P := oP P) kk (Eq.trans (if_neg c1) (if_pos c2)))).elim else V_iast (tat ok_X9_keepDraft_0 (i := 36) (q := 68) rfl rfl) rfl c2 <|
    V_iinc (v := (a1 + 1)) (lv' := [(1, .int (a1 + 1)), (0, .ref 33)]) (tat ok_X9_keepDraft_0 (i := 37) (q := 71) rfl rfl) 1 rfl (ia ic_1) (Nat.le_of_ble_eq_true rfl) rfl <|
    V_goto (tat ok_X9_keepDraft_0 (i := 38) (q := 74) rfl rfl) rfl <|
    V_pick [1, 0] rfl (hk (u2 I 34 (Int32.toNatClampNeg a1) (I 38 (Int32.toNatClampNeg a1))) (jx (P := oP P) kk (Eq.trans (if_neg c1) (if_neg c2))))))
def F_X9_keepDraft_74 (I : WI) (L : WL) : Option (WI × WL) :=
  some ((u2 (u2 I 36 (Int32.toNatClampNeg 0) 0) 36 (Int32.toNatClampNeg 1) 0), L)
theorem V_X9_keepDraft_74  {I : WI} {L : WL}   {P : (WI × WL) → Prop} {t : Tg} (hr : ∀ v, P v → t = (none, ly0, (p1 v), (p2 v), R0)) (kk : oP P (F_X9_keepDraft_74 I L)) : V (zM x_X9_keepDraft 1 0 0 t) 74 [(0, .ref 33)] [] ly0 I L R0 0 0 :=
  V_aload_n (tat ok_X9_keepDraft_0 (i := 39) (q := 75) rfl rfl) 0 rfl rfl <|
    V_getR (tat ok_X9_keepDraft_1 (i := 0) (q := 78) rfl rfl) fk_X9_17 rfl rfl <|
    V_iconst (tat ok_X9_keepDraft_1 (i := 1) (q := 79) rfl rfl) ic_0 <|
    V_iconst (tat ok_X9_keepDraft_1 (i := 2) (q := 80) rfl rfl) ic_0 <|
    V_iast (tat ok_X9_keepDraft_1 (i := 3) (q := 81) rfl rfl) rfl (vp_in_nI (n := 0) (by decide) (by decide)) <|
    V_aload_n (tat ok_X9_keepDraft_1 (i := 4) (q := 82) rfl rfl) 0 rfl rfl <|
    V_getR (tat ok_X9_keepDraft_1 (i := 5) (q := 85) rfl rfl) fk_X9_17 rfl rfl <|
    V_iconst (tat ok_X9_keepDraft_1 (i := 6) (q := 86) rfl rfl) ic_1 <|
    V_iconst (tat ok_X9_keepDraft_1 (i := 7) (q := 87) rfl rfl) ic_0 <|
    V_iast (tat ok_X9_keepDraft_1 (i := 8) (q := 88) rfl rfl) rfl (vp_in_nI (n := 1) (by decide) (by decide)) <|
    V_vret (tat ok_X9_keepDraft_1 (i := 9) (q := 89) rfl rfl) rfl (hr ((u2 (u2 I 36 (Int32.toNatClampNeg 0) 0) 36 (Int32.toNatClampNeg 1) 0), L) (jx (P := oP P) kk rfl)) ⟨(Nat.le_of_ble_eq_true rfl), (Nat.le_of_ble_eq_true rfl)⟩
def F_X9_keepDraft_50 (I : WI) (L : WL)  (a1 : Int32) : Option (WI × WL) :=
  (frp0 (fun i x => (F_X9_keepDraft_56_1 x L i)) 48 (fu a1 48) a1 I).bind (fun q => (F_X9_keepDraft_74 (p2 q) L))
theorem V_X9_keepDraft_50  {I : WI} {L : WL}  {a1 : Int32} {P : (WI × WL) → Prop} {t : Tg} (hb1 : bz a1 = a1) (hr : ∀ v, P v → t = (none, ly0, (p1 v), (p2 v), R0)) (kk : oP P (F_X9_keepDraft_50 I L a1)) : V (zM x_X9_keepDraft 1 0 0 t) 50 [(0, .ref 33), (1, .int a1)] [] ly0 I L R0 0 0 :=
  V_frp0 (fun i x => (F_X9_keepDraft_56_1 x L i)) 48 (fun i x => V (zM x_X9_keepDraft 1 0 0 t) 50 [(0, .ref 33), (1, .int i)] [] ly0 x L R0 0 0) (fun i x => oP P ((F_X9_keepDraft_74 x L))) (c := a1) (s := I) (fun i x kx kb => V_iload_n (tat ok_X9_keepDraft_0 (i := 26) (q := 51) rfl rfl) 1 rfl rfl <|
    V_bipush (tat ok_X9_keepDraft_0 (i := 27) (q := 53) rfl rfl) bp_48 <|
    V_icmp_ge (tat ok_X9_keepDraft_0 (i := 28) (q := 56) rfl rfl) rfl (fun c0 => V_pick [0] rfl (V_X9_keepDraft_74  hr (kx c0))) (fun c0 => V_X9_keepDraft_56_1 (P := (fun x => (fun i x => V (zM x_X9_keepDraft 1 0 0 t) 50 [(0, .ref 33), (1, .int i)] [] ly0 x L R0 0 0) (i + 1) x))  (fun _ e => e) (kb c0))) (oP_bind (f := fun q => _) kk)
def F_X9_keepDraft (I : WI) (L : WL) : Option (WI × WL) :=
  (F_X9_keepDraft_50 (u2 (u2 (u2 (u2 I 33 0 (I 33 10)) 33 1 ((u2 I 33 0 (I 33 10)) 33 11)) 33 4 (bz ((u2 (u2 I 33 0 (I 33 10)) 33 1 ((u2 I 33 0 (I 33 10)) 33 11)) 33 17))) 33 5 ((u2 (u2 (u2 I 33 0 (I 33 10)) 33 1 ((u2 I 33 0 (I 33 10)) 33 11)) 33 4 (bz ((u2 (u2 I 33 0 (I 33 10)) 33 1 ((u2 I 33 0 (I 33 10)) 33 11)) 33 17))) 33 18)) (u2 (u2 L 33 2 (L 33 12)) 33 3 ((u2 L 33 2 (L 33 12)) 33 15)) 0)
theorem V_X9_keepDraft  {I : WI} {L : WL}   {P : (WI × WL) → Prop} {t : Tg} (hr : ∀ v, P v → t = (none, ly0, (p1 v), (p2 v), R0)) (kk : oP P (F_X9_keepDraft I L)) : V (zM x_X9_keepDraft 1 0 0 t) 0 [(0, .ref 33)] [] ly0 I L R0 0 0 :=
  V_aload_n (tat ok_X9_keepDraft_0 (i := 0) (q := 1) rfl rfl) 0 rfl rfl <|
    V_aload_n (tat ok_X9_keepDraft_0 (i := 1) (q := 2) rfl rfl) 0 rfl rfl <|
    V_getI (tat ok_X9_keepDraft_0 (i := 2) (q := 5) rfl rfl) fk_X9_50 rfl <|
    V_putI (tat ok_X9_keepDraft_0 (i := 3) (q := 8) rfl rfl) fk_X9_74 rfl rfl <|
    V_aload_n (tat ok_X9_keepDraft_0 (i := 4) (q := 9) rfl rfl) 0 rfl rfl <|
    V_aload_n (tat ok_X9_keepDraft_0 (i := 5) (q := 10) rfl rfl) 0 rfl rfl <|
    V_getI (tat ok_X9_keepDraft_0 (i := 6) (q := 13) rfl rfl) fk_X9_54 rfl <|
    V_putI (tat ok_X9_keepDraft_0 (i := 7) (q := 16) rfl rfl) fk_X9_77 rfl rfl <|
    V_aload_n (tat ok_X9_keepDraft_0 (i := 8) (q := 17) rfl rfl) 0 rfl rfl <|
    V_aload_n (tat ok_X9_keepDraft_0 (i := 9) (q := 18) rfl rfl) 0 rfl rfl <|
    V_getL (tat ok_X9_keepDraft_0 (i := 10) (q := 21) rfl rfl) fk_X9_57 rfl <|
    V_putL (tat ok_X9_keepDraft_0 (i := 11) (q := 24) rfl rfl) fk_X9_80 rfl rfl <|
    V_aload_n (tat ok_X9_keepDraft_0 (i := 12) (q := 25) rfl rfl) 0 rfl rfl <|
    V_aload_n (tat ok_X9_keepDraft_0 (i := 13) (q := 26) rfl rfl) 0 rfl rfl <|
    V_getL (tat ok_X9_keepDraft_0 (i := 14) (q := 29) rfl rfl) fk_X9_61 rfl <|
    V_putL (tat ok_X9_keepDraft_0 (i := 15) (q := 32) rfl rfl) fk_X9_83 rfl rfl <|
    V_aload_n (tat ok_X9_keepDraft_0 (i := 16) (q := 33) rfl rfl) 0 rfl rfl <|
    V_aload_n (tat ok_X9_keepDraft_0 (i := 17) (q := 34) rfl rfl) 0 rfl rfl <|
    V_getZ (tat ok_X9_keepDraft_0 (i := 18) (q := 37) rfl rfl) fk_X9_68 rfl <|
    V_putZ (tat ok_X9_keepDraft_0 (i := 19) (q := 40) rfl rfl) fk_X9_86 rfl rfl (bz_bz _) <|
    V_aload_n (tat ok_X9_keepDraft_0 (i := 20) (q := 41) rfl rfl) 0 rfl rfl <|
    V_aload_n (tat ok_X9_keepDraft_0 (i := 21) (q := 42) rfl rfl) 0 rfl rfl <|
    V_getI (tat ok_X9_keepDraft_0 (i := 22) (q := 45) rfl rfl) fk_X9_71 rfl <|
    V_putI (tat ok_X9_keepDraft_0 (i := 23) (q := 48) rfl rfl) fk_X9_89 rfl rfl <|
    V_iconst (tat ok_X9_keepDraft_0 (i := 24) (q := 49) rfl rfl) ic_0 <|
    V_istore_n (lv' := [(1, .int 0), (0, .ref 33)]) (tat ok_X9_keepDraft_0 (i := 25) (q := 50) rfl rfl) rfl (Nat.le_of_ble_eq_true rfl) rfl <|
    V_pick [1, 0] rfl (V_X9_keepDraft_50 rfl hr (jx (P := oP P) kk rfl))
theorem ct_X9_keepDraft  (I : WI) (L : WL)  {v : (WI × WL)} (h : (F_X9_keepDraft I L) = some v) : Ct x_X9_keepDraft 1 [.ref 33] ly0 I L R0 0 0 (none, ly0, (p1 v), (p2 v), R0) :=
  Ct_of_V mo_X9_keepDraft.1 (Nat.le_of_ble_eq_true rfl) (V_X9_keepDraft (P := fun x => x = v)  (fun _ e => by rw [e]) (by rw [h]; exact rfl))
def F_X9_feed_19_1 (I : WI) (a1 : Int64) (a3 : Int32) : Option (WI ⊕ (Int32 × WI)) :=
  (if a3 < 0 then some (.inl I) else (if (I 33 21) < 0 ∨ 320 ≤ Int32.toNatClampNeg (I 33 21) then none else some (.inr ((a3 + (-8)), (u2 (u2 I 39 (Int32.toNatClampNeg (I 33 21)) (Int64.toInt32 ((lsr a1 a3) &&& 255))) 33 21 (((u2 I 39 (Int32.toNatClampNeg (I 33 21)) (Int64.toInt32 ((lsr a1 a3) &&& 255))) 33 21) + 1))))))
theorem V_X9_feed_19_1  {I : WI} {L : WL} {a1 : Int64} {a3 : Int32} {P : (WI ⊕ (Int32 × WI)) → Prop} {t : Tg} (he : ∀ x : WI, P (.inl x) → V (zM x_X9_feed 1 0 0 t) 56 [(0, .ref 33), (1, .long a1)] [] ly0 x L R0 0 0) (hk : ∀ x : (Int32 × WI), P (.inr x) → V (zM x_X9_feed 1 0 0 t) 19 [(0, .ref 33), (1, .long a1), (3, .int (p1 x))] [] ly0 (p2 x) L R0 0 0) (kk : oP P (F_X9_feed_19_1 I a1 a3)) : V (zM x_X9_feed 1 0 0 t) 19 [(0, .ref 33), (1, .long a1), (3, .int a3)] [] ly0 I L R0 0 0 :=
  V_iload_n (tat ok_X9_feed_0 (i := 10) (q := 20) rfl rfl) 2 rfl rfl <|
    V_if_lt (tat ok_X9_feed_0 (i := 11) (q := 23) rfl rfl) rfl (fun c2 => V_pick [0, 1] rfl (he I (jx (P := oP P) kk (if_pos c2)))) (fun c2 => V_aload_n (tat ok_X9_feed_0 (i := 12) (q := 24) rfl rfl) 0 rfl rfl <|
    V_getR (tat ok_X9_feed_0 (i := 13) (q := 27) rfl rfl) fk_X9_26 rfl rfl <|
    V_aload_n (tat ok_X9_feed_0 (i := 14) (q := 28) rfl rfl) 0 rfl rfl <|
    V_getI (tat ok_X9_feed_0 (i := 15) (q := 31) rfl rfl) fk_X9_92 rfl <|
    V_lload_n (tat ok_X9_feed_0 (i := 16) (q := 32) rfl rfl) 1 rfl rfl <|
    V_iload_n (tat ok_X9_feed_0 (i := 17) (q := 33) rfl rfl) 2 rfl rfl <|
    V_lshr (tat ok_X9_feed_0 (i := 18) (q := 34) rfl rfl) <|
    V_ldc2 (tat ok_X9_feed_0 (i := 19) (q := 37) rfl rfl) (gw_in kl_X9_95 rfl) <|
    V_land (tat ok_X9_feed_0 (i := 20) (q := 38) rfl rfl) <|
    V_l2i (tat ok_X9_feed_0 (i := 21) (q := 39) rfl rfl) <|
    (if c3 : (I 33 21) < 0 ∨ 320 ≤ Int32.toNatClampNeg (I 33 21) then ((jx (P := oP P) kk (Eq.trans (if_neg c2) (if_pos c3)))).elim else V_iast (tat ok_X9_feed_0 (i := 22) (q := 40) rfl rfl) rfl c3 <|
    V_aload_n (tat ok_X9_feed_0 (i := 23) (q := 41) rfl rfl) 0 rfl rfl <|
    V_dup (tat ok_X9_feed_0 (i := 24) (q := 42) rfl rfl) rfl <|
    V_getI (tat ok_X9_feed_0 (i := 25) (q := 45) rfl rfl) fk_X9_92 rfl <|
    V_iconst (tat ok_X9_feed_0 (i := 26) (q := 46) rfl rfl) ic_1 <|
    V_iadd (tat ok_X9_feed_0 (i := 27) (q := 47) rfl rfl) <|
    V_putI (tat ok_X9_feed_0 (i := 28) (q := 50) rfl rfl) fk_X9_92 rfl rfl <|
    V_iinc (v := (a3 + (-8))) (lv' := [(3, .int (a3 + (-8))), (0, .ref 33), (1, .long a1)]) (tat ok_X9_feed_0 (i := 29) (q := 53) rfl rfl) 2 rfl (ia ic_m8) (Nat.le_of_ble_eq_true rfl) rfl <|
    V_goto (tat ok_X9_feed_0 (i := 30) (q := 56) rfl rfl) rfl <|
    V_pick [1, 2, 0] rfl (hk ((a3 + (-8)), (u2 (u2 I 39 (Int32.toNatClampNeg (I 33 21)) (Int64.toInt32 ((lsr a1 a3) &&& 255))) 33 21 (((u2 I 39 (Int32.toNatClampNeg (I 33 21)) (Int64.toInt32 ((lsr a1 a3) &&& 255))) 33 21) + 1))) (jx (P := oP P) kk (Eq.trans (if_neg c2) (if_neg c3))))))
def F_X9_feed_56 (I : WI) (a1 : Int64) : Option (Int32 × WI) :=
  some ((I 33 21), I)
theorem V_X9_feed_56  {I : WI} {L : WL} {a1 : Int64}  {P : (Int32 × WI) → Prop} {t : Tg} (hr : ∀ v, P v → t = (some (.int (p1 v)), ly0, (p2 v), L, R0)) (kk : oP P (F_X9_feed_56 I a1)) : V (zM x_X9_feed 1 0 0 t) 56 [(0, .ref 33), (1, .long a1)] [] ly0 I L R0 0 0 :=
  V_aload_n (tat ok_X9_feed_0 (i := 31) (q := 57) rfl rfl) 0 rfl rfl <|
    V_getI (tat ok_X9_feed_0 (i := 32) (q := 60) rfl rfl) fk_X9_92 rfl <|
    V_iret (tat ok_X9_feed_0 (i := 33) (q := 61) rfl rfl) _ rfl (nar_int _) (hr ((I 33 21), I) (jx (P := oP P) kk rfl)) ⟨(Nat.le_of_ble_eq_true rfl), (Nat.le_of_ble_eq_true rfl)⟩
def F_X9_feed_19 (I : WI) (a1 : Int64) (a3 : Int32) : Option (Int32 × WI) :=
  (lpp (fun x => (F_X9_feed_19_1 (p2 x) a1 (p1 x))) 4294967296 (a3, I)).bind (fun q => (F_X9_feed_56 q a1))
theorem V_X9_feed_19  {I : WI} {L : WL} {a1 : Int64} {a3 : Int32} {P : (Int32 × WI) → Prop} {t : Tg} (hr : ∀ v, P v → t = (some (.int (p1 v)), ly0, (p2 v), L, R0)) (kk : oP P (F_X9_feed_19 I a1 a3)) : V (zM x_X9_feed 1 0 0 t) 19 [(0, .ref 33), (1, .long a1), (3, .int a3)] [] ly0 I L R0 0 0 :=
  V_lpp (fun x => (F_X9_feed_19_1 (p2 x) a1 (p1 x))) (fun x => V (zM x_X9_feed 1 0 0 t) 19 [(0, .ref 33), (1, .long a1), (3, .int (p1 x))] [] ly0 (p2 x) L R0 0 0) (fun x => oP P ((F_X9_feed_56 x a1))) (s := (a3, I)) (fun x e0 => V_X9_feed_19_1 (P := Sum.elim (fun x => oP P ((F_X9_feed_56 x a1))) (fun x => V (zM x_X9_feed 1 0 0 t) 19 [(0, .ref 33), (1, .long a1), (3, .int (p1 x))] [] ly0 (p2 x) L R0 0 0))  (fun x e => V_X9_feed_56  hr e) (fun _ e => e) e0) (oP_bind (f := fun q => _) kk)
def F_X9_feed (I : WI) (a1 : Int64) : Option (Int32 × WI) :=
  (if ((I 33 21) + 8) ≤ 320 then (F_X9_feed_19 I a1 56) else some ((-3), I))
theorem V_X9_feed  {I : WI} {L : WL} {a1 : Int64}  {P : (Int32 × WI) → Prop} {t : Tg} (hr : ∀ v, P v → t = (some (.int (p1 v)), ly0, (p2 v), L, R0)) (kk : oP P (F_X9_feed I a1)) : V (zM x_X9_feed 1 0 0 t) 0 [(0, .ref 33), (1, .long a1)] [] ly0 I L R0 0 0 :=
  V_aload_n (tat ok_X9_feed_0 (i := 0) (q := 1) rfl rfl) 0 rfl rfl <|
    V_getI (tat ok_X9_feed_0 (i := 1) (q := 4) rfl rfl) fk_X9_92 rfl <|
    V_bipush (tat ok_X9_feed_0 (i := 2) (q := 6) rfl rfl) bp_8 <|
    V_iadd (tat ok_X9_feed_0 (i := 3) (q := 7) rfl rfl) <|
    V_sipush (tat ok_X9_feed_0 (i := 4) (q := 10) rfl rfl) sp_320 <|
    V_icmp_le (tat ok_X9_feed_0 (i := 5) (q := 13) rfl rfl) rfl (fun c1 => V_bipush (tat ok_X9_feed_0 (i := 8) (q := 18) rfl rfl) bp_56 <|
    V_istore_n (lv' := [(3, .int 56), (0, .ref 33), (1, .long a1)]) (tat ok_X9_feed_0 (i := 9) (q := 19) rfl rfl) rfl (Nat.le_of_ble_eq_true rfl) rfl <|
    V_pick [1, 2, 0] rfl (V_X9_feed_19  hr (jx (P := oP P) kk (if_pos c1)))) (fun c1 => V_bipush (tat ok_X9_feed_0 (i := 6) (q := 15) rfl rfl) bp_m3 <|
    V_iret (tat ok_X9_feed_0 (i := 7) (q := 16) rfl rfl) _ rfl (nar_int _) (hr ((-3), I) (jx (P := oP P) kk (if_neg c1))) ⟨(Nat.le_of_ble_eq_true rfl), (Nat.le_of_ble_eq_true rfl)⟩)
theorem ct_X9_feed  (I : WI) (L : WL) (a1 : Int64)  {v : (Int32 × WI)} (h : (F_X9_feed I a1) = some v) : Ct x_X9_feed 1 [.ref 33, .long a1] ly0 I L R0 0 0 (some (.int (p1 v)), ly0, (p2 v), L, R0) :=
  Ct_of_V mo_X9_feed.1 (Nat.le_of_ble_eq_true rfl) (V_X9_feed (P := fun x => x = v)  (fun _ e => by rw [e]) (by rw [h]; exact rfl))
def F_X9_end (I : WI) (a1 : Int32) : (Int32 × WI) :=
  (if (F_X9_in (Int32.toInt64 a1) 0 (Int32.toInt64 (I 33 21))) = 0 then ((-1), I) else ((I 33 21), (u2 I 33 21 a1)))
theorem V_X9_end  {I : WI} {L : WL} {a1 : Int32}  {P : (Int32 × WI) → Prop} {t : Tg} (hr : ∀ v, P v → t = (some (.int (p1 v)), ly0, (p2 v), L, R0)) (kk : P (F_X9_end I a1)) : V (zM x_X9_end 2 0 0 t) 0 [(0, .ref 33), (1, .int a1)] [] ly0 I L R0 0 0 :=
  V_iload_n (tat ok_X9_end_0 (i := 0) (q := 1) rfl rfl) 1 rfl rfl <|
    V_i2l (tat ok_X9_end_0 (i := 1) (q := 2) rfl rfl) <|
    V_lconst (v := 0) (tat ok_X9_end_0 (i := 2) (q := 3) rfl rfl) rfl <|
    V_aload_n (tat ok_X9_end_0 (i := 3) (q := 4) rfl rfl) 0 rfl rfl <|
    V_getI (tat ok_X9_end_0 (i := 4) (q := 7) rfl rfl) fk_X9_92 rfl <|
    V_i2l (tat ok_X9_end_0 (i := 5) (q := 8) rfl rfl) <|
    V_cs3 (ct_X9_in I L (Int32.toInt64 a1) 0 (Int32.toInt64 (I 33 21)) ) mo_X9_in (tat ok_X9_end_0 (i := 6) (q := 11) rfl rfl) ml_X9_97 ⟨(Nat.le_of_ble_eq_true rfl), (Nat.le_of_ble_eq_true rfl)⟩ ⟨(Nat.le_of_ble_eq_true rfl), (Nat.le_of_ble_eq_true rfl)⟩ (Nat.le_of_ble_eq_true rfl) <|
    V_if_ne (tat ok_X9_end_0 (i := 7) (q := 14) rfl rfl) rfl (fun c1 => V_aload_n (tat ok_X9_end_0 (i := 10) (q := 17) rfl rfl) 0 rfl rfl <|
    V_getI (tat ok_X9_end_0 (i := 11) (q := 20) rfl rfl) fk_X9_92 rfl <|
    V_istore_n (lv' := [(2, .int (I 33 21)), (0, .ref 33), (1, .int a1)]) (tat ok_X9_end_0 (i := 12) (q := 21) rfl rfl) rfl (Nat.le_of_ble_eq_true rfl) rfl <|
    V_aload_n (tat ok_X9_end_0 (i := 13) (q := 22) rfl rfl) 1 rfl rfl <|
    V_iload_n (tat ok_X9_end_0 (i := 14) (q := 23) rfl rfl) 2 rfl rfl <|
    V_putI (tat ok_X9_end_0 (i := 15) (q := 26) rfl rfl) fk_X9_92 rfl rfl <|
    V_iload_n (tat ok_X9_end_0 (i := 16) (q := 27) rfl rfl) 0 rfl rfl <|
    V_iret (tat ok_X9_end_0 (i := 17) (q := 28) rfl rfl) _ rfl (nar_int _) (hr ((I 33 21), (u2 I 33 21 a1)) (jx (P := P) kk (if_neg c1))) ⟨(Nat.le_of_ble_eq_true rfl), (Nat.le_of_ble_eq_true rfl)⟩) (fun c1 => V_iconst (tat ok_X9_end_0 (i := 8) (q := 15) rfl rfl) ic_m1 <|
    V_iret (tat ok_X9_end_0 (i := 9) (q := 16) rfl rfl) _ rfl (nar_int _) (hr ((-1), I) (jx (P := P) kk (if_pos c1))) ⟨(Nat.le_of_ble_eq_true rfl), (Nat.le_of_ble_eq_true rfl)⟩)
theorem ct_X9_end  (I : WI) (L : WL) (a1 : Int32)  : Ct x_X9_end 2 [.ref 33, .int a1] ly0 I L R0 0 0 (some (.int (p1 (F_X9_end I a1))), ly0, (p2 (F_X9_end I a1)), L, R0) :=
  Ct_of_V mo_X9_end.1 (Nat.le_of_ble_eq_true rfl) (V_X9_end (P := fun x => x = (F_X9_end I a1))  (fun _ e => by rw [e]) rfl)
def F_X9_needs_24 (I : WI) (a1 : Int32) (a2 : Int32) : WI :=
  I
theorem V_X9_needs_24  {I : WI} {L : WL} {a1 : Int32} {a2 : Int32}  {P : WI → Prop} {t : Tg} (hr : ∀ v, P v → t = (none, ly0, v, L, R0)) (kk : P (F_X9_needs_24 I a1 a2)) : V (zM x_X9_needs 1 0 0 t) 24 [(0, .ref 33), (1, .int a1), (2, .int a2)] [] ly0 I L R0 0 0 :=
  V_vret (tat ok_X9_needs_0 (i := 12) (q := 25) rfl rfl) rfl (hr I (jx (P := P) kk rfl)) ⟨(Nat.le_of_ble_eq_true rfl), (Nat.le_of_ble_eq_true rfl)⟩
def F_X9_needs (I : WI) (a1 : Int32) (a2 : Int32) : WI :=
  (if a1 = 0 then (if (I 33 26) = 0 then (F_X9_needs_24 (u2 (u2 I 33 26 a2) 33 27 ((u2 I 33 26 a2) 33 23)) a1 a2) else (F_X9_needs_24 I a1 a2)) else (F_X9_needs_24 I a1 a2))
theorem V_X9_needs  {I : WI} {L : WL} {a1 : Int32} {a2 : Int32}  {P : WI → Prop} {t : Tg} (hr : ∀ v, P v → t = (none, ly0, v, L, R0)) (kk : P (F_X9_needs I a1 a2)) : V (zM x_X9_needs 1 0 0 t) 0 [(0, .ref 33), (1, .int a1), (2, .int a2)] [] ly0 I L R0 0 0 :=
  V_iload_n (tat ok_X9_needs_0 (i := 0) (q := 1) rfl rfl) 1 rfl rfl <|
    V_if_ne (tat ok_X9_needs_0 (i := 1) (q := 4) rfl rfl) rfl (fun c1 => V_X9_needs_24  hr (jx (P := P) kk (if_neg c1))) (fun c1 => V_aload_n (tat ok_X9_needs_0 (i := 2) (q := 5) rfl rfl) 0 rfl rfl <|
    V_getI (tat ok_X9_needs_0 (i := 3) (q := 8) rfl rfl) fk_X9_101 rfl <|
    V_if_ne (tat ok_X9_needs_0 (i := 4) (q := 11) rfl rfl) rfl (fun c2 => V_X9_needs_24  hr (jx (P := P) kk (Eq.trans (if_pos c1) (if_neg c2)))) (fun c2 => V_aload_n (tat ok_X9_needs_0 (i := 5) (q := 12) rfl rfl) 0 rfl rfl <|
    V_iload_n (tat ok_X9_needs_0 (i := 6) (q := 13) rfl rfl) 2 rfl rfl <|
    V_putI (tat ok_X9_needs_0 (i := 7) (q := 16) rfl rfl) fk_X9_101 rfl rfl <|
    V_aload_n (tat ok_X9_needs_0 (i := 8) (q := 17) rfl rfl) 0 rfl rfl <|
    V_aload_n (tat ok_X9_needs_0 (i := 9) (q := 18) rfl rfl) 0 rfl rfl <|
    V_getI (tat ok_X9_needs_0 (i := 10) (q := 21) rfl rfl) fk_X9_104 rfl <|
    V_putI (tat ok_X9_needs_0 (i := 11) (q := 24) rfl rfl) fk_X9_107 rfl rfl <|
    V_X9_needs_24  hr (jx (P := P) kk (Eq.trans (if_pos c1) (if_pos c2)))))
theorem ct_X9_needs  (I : WI) (L : WL) (a1 : Int32) (a2 : Int32)  : Ct x_X9_needs 1 [.ref 33, .int a1, .int a2] ly0 I L R0 0 0 (none, ly0, (F_X9_needs I a1 a2), L, R0) :=
  Ct_of_V mo_X9_needs.1 (Nat.le_of_ble_eq_true rfl) (V_X9_needs (P := fun x => x = (F_X9_needs I a1 a2))  (fun _ e => by rw [e]) rfl)
def F_X9_look_18 (I : WI) (a1 : Int32) (s0 : Int32) : Option Int32 :=
  some s0
theorem V_X9_look_18  {I : WI} {L : WL} {a1 : Int32} {s0 : Int32} {P : Int32 → Prop} {t : Tg} (hr : ∀ v, P v → t = (some (.int v), ly0, I, L, R0)) (kk : oP P (F_X9_look_18 I a1 s0)) : V (zM x_X9_look 1 0 0 t) 18 [(0, .ref 33), (1, .int a1)] [.int s0] ly0 I L R0 0 0 :=
  V_iret (tat ok_X9_look_0 (i := 10) (q := 19) rfl rfl) _ rfl (nar_int _) (hr s0 (jx (P := oP P) kk rfl)) ⟨(Nat.le_of_ble_eq_true rfl), (Nat.le_of_ble_eq_true rfl)⟩
def F_X9_look (I : WI) (a1 : Int32) : Option Int32 :=
  (if (I 33 21) ≤ a1 then (F_X9_look_18 I a1 (-1)) else (if a1 < 0 ∨ 320 ≤ Int32.toNatClampNeg a1 then none else (F_X9_look_18 I a1 (I 39 (Int32.toNatClampNeg a1)))))
theorem V_X9_look  {I : WI} {L : WL} {a1 : Int32}  {P : Int32 → Prop} {t : Tg} (hr : ∀ v, P v → t = (some (.int v), ly0, I, L, R0)) (kk : oP P (F_X9_look I a1)) : V (zM x_X9_look 1 0 0 t) 0 [(0, .ref 33), (1, .int a1)] [] ly0 I L R0 0 0 :=
  V_iload_n (tat ok_X9_look_0 (i := 0) (q := 1) rfl rfl) 1 rfl rfl <|
    V_aload_n (tat ok_X9_look_0 (i := 1) (q := 2) rfl rfl) 0 rfl rfl <|
    V_getI (tat ok_X9_look_0 (i := 2) (q := 5) rfl rfl) fk_X9_92 rfl <|
    V_icmp_ge (tat ok_X9_look_0 (i := 3) (q := 8) rfl rfl) rfl (fun c1 => V_iconst (tat ok_X9_look_0 (i := 9) (q := 18) rfl rfl) ic_m1 <|
    V_X9_look_18  hr (jx (P := oP P) kk (if_pos c1))) (fun c1 => V_aload_n (tat ok_X9_look_0 (i := 4) (q := 9) rfl rfl) 0 rfl rfl <|
    V_getR (tat ok_X9_look_0 (i := 5) (q := 12) rfl rfl) fk_X9_26 rfl rfl <|
    V_iload_n (tat ok_X9_look_0 (i := 6) (q := 13) rfl rfl) 1 rfl rfl <|
    (if c2 : a1 < 0 ∨ 320 ≤ Int32.toNatClampNeg a1 then ((jx (P := oP P) kk (Eq.trans (if_neg c1) (if_pos c2)))).elim else V_iald (tat ok_X9_look_0 (i := 7) (q := 14) rfl rfl) rfl c2 <|
    V_goto (tat ok_X9_look_0 (i := 8) (q := 17) rfl rfl) rfl <|
    V_X9_look_18  hr (jx (P := oP P) kk (Eq.trans (if_neg c1) (if_neg c2)))))
theorem ct_X9_look  (I : WI) (L : WL) (a1 : Int32)  {v : Int32} (h : (F_X9_look I a1) = some v) : Ct x_X9_look 1 [.ref 33, .int a1] ly0 I L R0 0 0 (some (.int v), ly0, I, L, R0) :=
  Ct_of_V mo_X9_look.1 (Nat.le_of_ble_eq_true rfl) (V_X9_look (P := fun x => x = v)  (fun _ e => by rw [e]) (by rw [h]; exact rfl))
def F_X9_is_59 (I : WI) (a1 : Int32) (a2 : Int32) (a3 : Int32) (a4 : Int32) (s0 : Int32) : Option Int32 :=
  some s0
theorem V_X9_is_59  {I : WI} {L : WL} {a1 : Int32} {a2 : Int32} {a3 : Int32} {a4 : Int32} {s0 : Int32} {P : Int32 → Prop} {t : Tg} (hs0 : bz s0 = s0) (hr : ∀ v, P v → t = (some (.int v), ly0, I, L, R0)) (kk : oP P (F_X9_is_59 I a1 a2 a3 a4 s0)) : V (zM x_X9_is 2 0 0 t) 59 [(0, .ref 33), (1, .int a1), (2, .int a2), (3, .int a3), (4, .int a4)] [.int s0] ly0 I L R0 0 0 :=
  V_iret (tat ok_X9_is_0 (i := 32) (q := 60) rfl rfl) _ rfl (bz_nf hs0).1 (hr s0 (jx (P := oP P) kk rfl)) ⟨(Nat.le_of_ble_eq_true rfl), (Nat.le_of_ble_eq_true rfl)⟩
def F_X9_is_58 (I : WI) (a1 : Int32) (a2 : Int32) (a3 : Int32) (a4 : Int32) : Option Int32 :=
  (F_X9_is_59 I a1 a2 a3 a4 0)
theorem V_X9_is_58  {I : WI} {L : WL} {a1 : Int32} {a2 : Int32} {a3 : Int32} {a4 : Int32}  {P : Int32 → Prop} {t : Tg} (hr : ∀ v, P v → t = (some (.int v), ly0, I, L, R0)) (kk : oP P (F_X9_is_58 I a1 a2 a3 a4)) : V (zM x_X9_is 2 0 0 t) 58 [(0, .ref 33), (1, .int a1), (2, .int a2), (3, .int a3), (4, .int a4)] [] ly0 I L R0 0 0 :=
  V_iconst (tat ok_X9_is_0 (i := 31) (q := 59) rfl rfl) ic_0 <|
    V_X9_is_59 rfl hr (jx (P := oP P) kk rfl)
def F_X9_is (I : WI) (a1 : Int32) (a2 : Int32) (a3 : Int32) (a4 : Int32) : Option Int32 :=
  (if ((I 33 22) - (I 33 23)) = a1 then (Option.bind (F_X9_look I (I 33 23)) (fun v2 => (if v2 = a2 then (Option.bind (F_X9_look I ((I 33 23) + 1)) (fun v4 => (if v4 = a3 then (Option.bind (F_X9_look I ((I 33 23) + 2)) (fun v6 => (if v6 = a4 then (F_X9_is_59 I a1 a2 a3 a4 1) else (F_X9_is_58 I a1 a2 a3 a4)))) else (F_X9_is_58 I a1 a2 a3 a4)))) else (F_X9_is_58 I a1 a2 a3 a4)))) else (F_X9_is_58 I a1 a2 a3 a4))
theorem V_X9_is  {I : WI} {L : WL} {a1 : Int32} {a2 : Int32} {a3 : Int32} {a4 : Int32}  {P : Int32 → Prop} {t : Tg} (hr : ∀ v, P v → t = (some (.int v), ly0, I, L, R0)) (kk : oP P (F_X9_is I a1 a2 a3 a4)) : V (zM x_X9_is 2 0 0 t) 0 [(0, .ref 33), (1, .int a1), (2, .int a2), (3, .int a3), (4, .int a4)] [] ly0 I L R0 0 0 :=
  V_aload_n (tat ok_X9_is_0 (i := 0) (q := 1) rfl rfl) 0 rfl rfl <|
    V_getI (tat ok_X9_is_0 (i := 1) (q := 4) rfl rfl) fk_X9_110 rfl <|
    V_aload_n (tat ok_X9_is_0 (i := 2) (q := 5) rfl rfl) 0 rfl rfl <|
    V_getI (tat ok_X9_is_0 (i := 3) (q := 8) rfl rfl) fk_X9_104 rfl <|
    V_isub (tat ok_X9_is_0 (i := 4) (q := 9) rfl rfl) <|
    V_iload_n (tat ok_X9_is_0 (i := 5) (q := 10) rfl rfl) 1 rfl rfl <|
    V_icmp_ne (tat ok_X9_is_0 (i := 6) (q := 13) rfl rfl) rfl (fun c1 => V_X9_is_58  hr (jx (P := oP P) kk (if_neg c1))) (fun c1 => V_aload_n (tat ok_X9_is_0 (i := 7) (q := 14) rfl rfl) 0 rfl rfl <|
    V_aload_n (tat ok_X9_is_0 (i := 8) (q := 15) rfl rfl) 0 rfl rfl <|
    V_getI (tat ok_X9_is_0 (i := 9) (q := 18) rfl rfl) fk_X9_104 rfl <|
    oP_case (jx (P := oP P) kk (if_pos c1)) (fun v2 e2 _ => V_cv1 (ct_X9_look I L (I 33 23)  e2) mo_X9_look (tat ok_X9_is_0 (i := 10) (q := 21) rfl rfl) ml_X9_113 rfl ⟨by decide, _, rfl, rfl⟩ ⟨(Nat.le_of_ble_eq_true rfl), (Nat.le_of_ble_eq_true rfl)⟩ ⟨(Nat.le_of_ble_eq_true rfl), (Nat.le_of_ble_eq_true rfl)⟩ (Nat.le_of_ble_eq_true rfl) <|
    V_iload_n (tat ok_X9_is_0 (i := 11) (q := 22) rfl rfl) 2 rfl rfl <|
    V_icmp_ne (tat ok_X9_is_0 (i := 12) (q := 25) rfl rfl) rfl (fun c3 => V_X9_is_58  hr (jx (P := oP P) kk (Eq.trans (if_pos c1) (Eq.trans (ob e2) (if_neg c3))))) (fun c3 => V_aload_n (tat ok_X9_is_0 (i := 13) (q := 26) rfl rfl) 0 rfl rfl <|
    V_aload_n (tat ok_X9_is_0 (i := 14) (q := 27) rfl rfl) 0 rfl rfl <|
    V_getI (tat ok_X9_is_0 (i := 15) (q := 30) rfl rfl) fk_X9_104 rfl <|
    V_iconst (tat ok_X9_is_0 (i := 16) (q := 31) rfl rfl) ic_1 <|
    V_iadd (tat ok_X9_is_0 (i := 17) (q := 32) rfl rfl) <|
    oP_case (jx (P := oP P) kk (Eq.trans (if_pos c1) (Eq.trans (ob e2) (if_pos c3)))) (fun v4 e4 _ => V_cv1 (ct_X9_look I L ((I 33 23) + 1)  e4) mo_X9_look (tat ok_X9_is_0 (i := 18) (q := 35) rfl rfl) ml_X9_113 rfl ⟨by decide, _, rfl, rfl⟩ ⟨(Nat.le_of_ble_eq_true rfl), (Nat.le_of_ble_eq_true rfl)⟩ ⟨(Nat.le_of_ble_eq_true rfl), (Nat.le_of_ble_eq_true rfl)⟩ (Nat.le_of_ble_eq_true rfl) <|
    V_iload_n (tat ok_X9_is_0 (i := 19) (q := 36) rfl rfl) 3 rfl rfl <|
    V_icmp_ne (tat ok_X9_is_0 (i := 20) (q := 39) rfl rfl) rfl (fun c5 => V_X9_is_58  hr (jx (P := oP P) kk (Eq.trans (if_pos c1) (Eq.trans (ob e2) (Eq.trans (if_pos c3) (Eq.trans (ob e4) (if_neg c5))))))) (fun c5 => V_aload_n (tat ok_X9_is_0 (i := 21) (q := 40) rfl rfl) 0 rfl rfl <|
    V_aload_n (tat ok_X9_is_0 (i := 22) (q := 41) rfl rfl) 0 rfl rfl <|
    V_getI (tat ok_X9_is_0 (i := 23) (q := 44) rfl rfl) fk_X9_104 rfl <|
    V_iconst (tat ok_X9_is_0 (i := 24) (q := 45) rfl rfl) ic_2 <|
    V_iadd (tat ok_X9_is_0 (i := 25) (q := 46) rfl rfl) <|
    oP_case (jx (P := oP P) kk (Eq.trans (if_pos c1) (Eq.trans (ob e2) (Eq.trans (if_pos c3) (Eq.trans (ob e4) (if_pos c5)))))) (fun v6 e6 _ => V_cv1 (ct_X9_look I L ((I 33 23) + 2)  e6) mo_X9_look (tat ok_X9_is_0 (i := 26) (q := 49) rfl rfl) ml_X9_113 rfl ⟨by decide, _, rfl, rfl⟩ ⟨(Nat.le_of_ble_eq_true rfl), (Nat.le_of_ble_eq_true rfl)⟩ ⟨(Nat.le_of_ble_eq_true rfl), (Nat.le_of_ble_eq_true rfl)⟩ (Nat.le_of_ble_eq_true rfl) <|
    V_iload (tat ok_X9_is_0 (i := 27) (q := 51) rfl rfl) 4 rfl <|
    V_icmp_ne (tat ok_X9_is_0 (i := 28) (q := 54) rfl rfl) rfl (fun c7 => V_X9_is_58  hr (jx (P := oP P) kk (Eq.trans (if_pos c1) (Eq.trans (ob e2) (Eq.trans (if_pos c3) (Eq.trans (ob e4) (Eq.trans (if_pos c5) (Eq.trans (ob e6) (if_neg c7))))))))) (fun c7 => V_iconst (tat ok_X9_is_0 (i := 29) (q := 55) rfl rfl) ic_1 <|
    V_goto (tat ok_X9_is_0 (i := 30) (q := 58) rfl rfl) rfl <|
    V_X9_is_59 rfl hr (jx (P := oP P) kk (Eq.trans (if_pos c1) (Eq.trans (ob e2) (Eq.trans (if_pos c3) (Eq.trans (ob e4) (Eq.trans (if_pos c5) (Eq.trans (ob e6) (if_pos c7)))))))))))))))
theorem ct_X9_is  (I : WI) (L : WL) (a1 : Int32) (a2 : Int32) (a3 : Int32) (a4 : Int32)  {v : Int32} (h : (F_X9_is I a1 a2 a3 a4) = some v) : Ct x_X9_is 2 [.ref 33, .int a1, .int a2, .int a3, .int a4] ly0 I L R0 0 0 (some (.int v), ly0, I, L, R0) :=
  Ct_of_V mo_X9_is.1 (Nat.le_of_ble_eq_true rfl) (V_X9_is (P := fun x => x = v)  (fun _ e => by rw [e]) (by rw [h]; exact rfl))
def F_X9_goesOn_61 (I : WI) (a1 : Int32) (a2 : Int32) (a3 : Int32) (a4 : Int32) (s0 : Int32) : Option Int32 :=
  some s0
theorem V_X9_goesOn_61  {I : WI} {L : WL} {a1 : Int32} {a2 : Int32} {a3 : Int32} {a4 : Int32} {s0 : Int32} {P : Int32 → Prop} {t : Tg} (hs0 : bz s0 = s0) (hr : ∀ v, P v → t = (some (.int v), ly0, I, L, R0)) (kk : oP P (F_X9_goesOn_61 I a1 a2 a3 a4 s0)) : V (zM x_X9_goesOn 2 0 0 t) 61 [(0, .ref 33), (1, .int a1), (2, .int a2), (3, .int a3), (4, .int a4)] [.int s0] ly0 I L R0 0 0 :=
  V_iret (tat ok_X9_goesOn_0 (i := 35) (q := 62) rfl rfl) _ rfl (bz_nf hs0).1 (hr s0 (jx (P := oP P) kk rfl)) ⟨(Nat.le_of_ble_eq_true rfl), (Nat.le_of_ble_eq_true rfl)⟩
def F_X9_goesOn_56 (I : WI) (a1 : Int32) (a2 : Int32) (a3 : Int32) (a4 : Int32) : Option Int32 :=
  (F_X9_goesOn_61 I a1 a2 a3 a4 1)
theorem V_X9_goesOn_56  {I : WI} {L : WL} {a1 : Int32} {a2 : Int32} {a3 : Int32} {a4 : Int32}  {P : Int32 → Prop} {t : Tg} (hr : ∀ v, P v → t = (some (.int v), ly0, I, L, R0)) (kk : oP P (F_X9_goesOn_56 I a1 a2 a3 a4)) : V (zM x_X9_goesOn 2 0 0 t) 56 [(0, .ref 33), (1, .int a1), (2, .int a2), (3, .int a3), (4, .int a4)] [] ly0 I L R0 0 0 :=
  V_iconst (tat ok_X9_goesOn_0 (i := 32) (q := 57) rfl rfl) ic_1 <|
    V_goto (tat ok_X9_goesOn_0 (i := 33) (q := 60) rfl rfl) rfl <|
    V_X9_goesOn_61 rfl hr (jx (P := oP P) kk rfl)
def F_X9_goesOn_60 (I : WI) (a1 : Int32) (a2 : Int32) (a3 : Int32) (a4 : Int32) : Option Int32 :=
  (F_X9_goesOn_61 I a1 a2 a3 a4 0)
theorem V_X9_goesOn_60  {I : WI} {L : WL} {a1 : Int32} {a2 : Int32} {a3 : Int32} {a4 : Int32}  {P : Int32 → Prop} {t : Tg} (hr : ∀ v, P v → t = (some (.int v), ly0, I, L, R0)) (kk : oP P (F_X9_goesOn_60 I a1 a2 a3 a4)) : V (zM x_X9_goesOn 2 0 0 t) 60 [(0, .ref 33), (1, .int a1), (2, .int a2), (3, .int a3), (4, .int a4)] [] ly0 I L R0 0 0 :=
  V_iconst (tat ok_X9_goesOn_0 (i := 34) (q := 61) rfl rfl) ic_0 <|
    V_X9_goesOn_61 rfl hr (jx (P := oP P) kk rfl)
def F_X9_goesOn_34 (I : WI) (a1 : Int32) (a2 : Int32) (a3 : Int32) (a4 : Int32) : Option Int32 :=
  (if a4 = 0 then (F_X9_goesOn_56 I a1 a2 a3 a4) else (Option.bind (F_X9_look I (((I 33 23) + a1) + 2)) (fun v5 => (if v5 = a4 then (F_X9_goesOn_56 I a1 a2 a3 a4) else (F_X9_goesOn_60 I a1 a2 a3 a4)))))
theorem V_X9_goesOn_34  {I : WI} {L : WL} {a1 : Int32} {a2 : Int32} {a3 : Int32} {a4 : Int32}  {P : Int32 → Prop} {t : Tg} (hr : ∀ v, P v → t = (some (.int v), ly0, I, L, R0)) (kk : oP P (F_X9_goesOn_34 I a1 a2 a3 a4)) : V (zM x_X9_goesOn 2 0 0 t) 34 [(0, .ref 33), (1, .int a1), (2, .int a2), (3, .int a3), (4, .int a4)] [] ly0 I L R0 0 0 :=
  V_iload (tat ok_X9_goesOn_0 (i := 20) (q := 36) rfl rfl) 4 rfl <|
    V_if_eq (tat ok_X9_goesOn_0 (i := 21) (q := 39) rfl rfl) rfl (fun c4 => V_X9_goesOn_56  hr (jx (P := oP P) kk (if_pos c4))) (fun c4 => V_aload_n (tat ok_X9_goesOn_0 (i := 22) (q := 40) rfl rfl) 0 rfl rfl <|
    V_aload_n (tat ok_X9_goesOn_0 (i := 23) (q := 41) rfl rfl) 0 rfl rfl <|
    V_getI (tat ok_X9_goesOn_0 (i := 24) (q := 44) rfl rfl) fk_X9_104 rfl <|
    V_iload_n (tat ok_X9_goesOn_0 (i := 25) (q := 45) rfl rfl) 1 rfl rfl <|
    V_iadd (tat ok_X9_goesOn_0 (i := 26) (q := 46) rfl rfl) <|
    V_iconst (tat ok_X9_goesOn_0 (i := 27) (q := 47) rfl rfl) ic_2 <|
    V_iadd (tat ok_X9_goesOn_0 (i := 28) (q := 48) rfl rfl) <|
    oP_case (jx (P := oP P) kk (if_neg c4)) (fun v5 e5 _ => V_cv1 (ct_X9_look I L (((I 33 23) + a1) + 2)  e5) mo_X9_look (tat ok_X9_goesOn_0 (i := 29) (q := 51) rfl rfl) ml_X9_113 rfl ⟨by decide, _, rfl, rfl⟩ ⟨(Nat.le_of_ble_eq_true rfl), (Nat.le_of_ble_eq_true rfl)⟩ ⟨(Nat.le_of_ble_eq_true rfl), (Nat.le_of_ble_eq_true rfl)⟩ (Nat.le_of_ble_eq_true rfl) <|
    V_iload (tat ok_X9_goesOn_0 (i := 30) (q := 53) rfl rfl) 4 rfl <|
    V_icmp_ne (tat ok_X9_goesOn_0 (i := 31) (q := 56) rfl rfl) rfl (fun c6 => V_X9_goesOn_60  hr (jx (P := oP P) kk (Eq.trans (if_neg c4) (Eq.trans (ob e5) (if_neg c6))))) (fun c6 => V_X9_goesOn_56  hr (jx (P := oP P) kk (Eq.trans (if_neg c4) (Eq.trans (ob e5) (if_pos c6)))))))
def F_X9_goesOn (I : WI) (a1 : Int32) (a2 : Int32) (a3 : Int32) (a4 : Int32) : Option Int32 :=
  (Option.bind (F_X9_look I ((I 33 23) + a1)) (fun v1 => (if v1 = a2 then (if a3 = 0 then (F_X9_goesOn_34 I a1 a2 a3 a4) else (Option.bind (F_X9_look I (((I 33 23) + a1) + 1)) (fun v7 => (if v7 = a3 then (F_X9_goesOn_34 I a1 a2 a3 a4) else (F_X9_goesOn_60 I a1 a2 a3 a4))))) else (F_X9_goesOn_60 I a1 a2 a3 a4))))
theorem V_X9_goesOn  {I : WI} {L : WL} {a1 : Int32} {a2 : Int32} {a3 : Int32} {a4 : Int32}  {P : Int32 → Prop} {t : Tg} (hr : ∀ v, P v → t = (some (.int v), ly0, I, L, R0)) (kk : oP P (F_X9_goesOn I a1 a2 a3 a4)) : V (zM x_X9_goesOn 2 0 0 t) 0 [(0, .ref 33), (1, .int a1), (2, .int a2), (3, .int a3), (4, .int a4)] [] ly0 I L R0 0 0 :=
  V_aload_n (tat ok_X9_goesOn_0 (i := 0) (q := 1) rfl rfl) 0 rfl rfl <|
    V_aload_n (tat ok_X9_goesOn_0 (i := 1) (q := 2) rfl rfl) 0 rfl rfl <|
    V_getI (tat ok_X9_goesOn_0 (i := 2) (q := 5) rfl rfl) fk_X9_104 rfl <|
    V_iload_n (tat ok_X9_goesOn_0 (i := 3) (q := 6) rfl rfl) 1 rfl rfl <|
    V_iadd (tat ok_X9_goesOn_0 (i := 4) (q := 7) rfl rfl) <|
    oP_case (jx (P := oP P) kk rfl) (fun v1 e1 _ => V_cv1 (ct_X9_look I L ((I 33 23) + a1)  e1) mo_X9_look (tat ok_X9_goesOn_0 (i := 5) (q := 10) rfl rfl) ml_X9_113 rfl ⟨by decide, _, rfl, rfl⟩ ⟨(Nat.le_of_ble_eq_true rfl), (Nat.le_of_ble_eq_true rfl)⟩ ⟨(Nat.le_of_ble_eq_true rfl), (Nat.le_of_ble_eq_true rfl)⟩ (Nat.le_of_ble_eq_true rfl) <|
    V_iload_n (tat ok_X9_goesOn_0 (i := 6) (q := 11) rfl rfl) 2 rfl rfl <|
    V_icmp_ne (tat ok_X9_goesOn_0 (i := 7) (q := 14) rfl rfl) rfl (fun c2 => V_X9_goesOn_60  hr (jx (P := oP P) kk (Eq.trans (ob e1) (if_neg c2)))) (fun c2 => V_iload_n (tat ok_X9_goesOn_0 (i := 8) (q := 15) rfl rfl) 3 rfl rfl <|
    V_if_eq (tat ok_X9_goesOn_0 (i := 9) (q := 18) rfl rfl) rfl (fun c3 => V_X9_goesOn_34  hr (jx (P := oP P) kk (Eq.trans (ob e1) (Eq.trans (if_pos c2) (if_pos c3))))) (fun c3 => V_aload_n (tat ok_X9_goesOn_0 (i := 10) (q := 19) rfl rfl) 0 rfl rfl <|
    V_aload_n (tat ok_X9_goesOn_0 (i := 11) (q := 20) rfl rfl) 0 rfl rfl <|
    V_getI (tat ok_X9_goesOn_0 (i := 12) (q := 23) rfl rfl) fk_X9_104 rfl <|
    V_iload_n (tat ok_X9_goesOn_0 (i := 13) (q := 24) rfl rfl) 1 rfl rfl <|
    V_iadd (tat ok_X9_goesOn_0 (i := 14) (q := 25) rfl rfl) <|
    V_iconst (tat ok_X9_goesOn_0 (i := 15) (q := 26) rfl rfl) ic_1 <|
    V_iadd (tat ok_X9_goesOn_0 (i := 16) (q := 27) rfl rfl) <|
    oP_case (jx (P := oP P) kk (Eq.trans (ob e1) (Eq.trans (if_pos c2) (if_neg c3)))) (fun v7 e7 _ => V_cv1 (ct_X9_look I L (((I 33 23) + a1) + 1)  e7) mo_X9_look (tat ok_X9_goesOn_0 (i := 17) (q := 30) rfl rfl) ml_X9_113 rfl ⟨by decide, _, rfl, rfl⟩ ⟨(Nat.le_of_ble_eq_true rfl), (Nat.le_of_ble_eq_true rfl)⟩ ⟨(Nat.le_of_ble_eq_true rfl), (Nat.le_of_ble_eq_true rfl)⟩ (Nat.le_of_ble_eq_true rfl) <|
    V_iload_n (tat ok_X9_goesOn_0 (i := 18) (q := 31) rfl rfl) 3 rfl rfl <|
    V_icmp_ne (tat ok_X9_goesOn_0 (i := 19) (q := 34) rfl rfl) rfl (fun c8 => V_X9_goesOn_60  hr (jx (P := oP P) kk (Eq.trans (ob e1) (Eq.trans (if_pos c2) (Eq.trans (if_neg c3) (Eq.trans (ob e7) (if_neg c8))))))) (fun c8 => V_X9_goesOn_34  hr (jx (P := oP P) kk (Eq.trans (ob e1) (Eq.trans (if_pos c2) (Eq.trans (if_neg c3) (Eq.trans (ob e7) (if_pos c8)))))))))))
theorem ct_X9_goesOn  (I : WI) (L : WL) (a1 : Int32) (a2 : Int32) (a3 : Int32) (a4 : Int32)  {v : Int32} (h : (F_X9_goesOn I a1 a2 a3 a4) = some v) : Ct x_X9_goesOn 2 [.ref 33, .int a1, .int a2, .int a3, .int a4] ly0 I L R0 0 0 (some (.int v), ly0, I, L, R0) :=
  Ct_of_V mo_X9_goesOn.1 (Nat.le_of_ble_eq_true rfl) (V_X9_goesOn (P := fun x => x = v)  (fun _ e => by rw [e]) (by rw [h]; exact rfl))
def F_X9_lineNow_96 (I : WI)  (s0 : Int32) : Option Int32 :=
  some s0
theorem V_X9_lineNow_96  {I : WI} {L : WL}  {s0 : Int32} {P : Int32 → Prop} {t : Tg} (hr : ∀ v, P v → t = (some (.int v), ly0, I, L, R0)) (kk : oP P (F_X9_lineNow_96 I s0)) : V (zM x_X9_lineNow 3 0 0 t) 96 [(0, .ref 33)] [.int s0] ly0 I L R0 0 0 :=
  V_iret (tat ok_X9_lineNow_1 (i := 9) (q := 97) rfl rfl) _ rfl (nar_int _) (hr s0 (jx (P := oP P) kk rfl)) ⟨(Nat.le_of_ble_eq_true rfl), (Nat.le_of_ble_eq_true rfl)⟩
def F_X9_lineNow_75 (I : WI) : Option Int32 :=
  (Option.bind (F_X9_is I 3 100 97 121) (fun v5 => (if v5 = 0 then (F_X9_lineNow_96 I (-4)) else (F_X9_lineNow_96 I 12))))
theorem V_X9_lineNow_75  {I : WI} {L : WL}   {P : Int32 → Prop} {t : Tg} (hr : ∀ v, P v → t = (some (.int v), ly0, I, L, R0)) (kk : oP P (F_X9_lineNow_75 I)) : V (zM x_X9_lineNow 3 0 0 t) 75 [(0, .ref 33)] [] ly0 I L R0 0 0 :=
  V_aload_n (tat ok_X9_lineNow_0 (i := 39) (q := 76) rfl rfl) 0 rfl rfl <|
    V_iconst (tat ok_X9_lineNow_1 (i := 0) (q := 77) rfl rfl) ic_3 <|
    V_bipush (tat ok_X9_lineNow_1 (i := 1) (q := 79) rfl rfl) bp_100 <|
    V_bipush (tat ok_X9_lineNow_1 (i := 2) (q := 81) rfl rfl) bp_97 <|
    V_bipush (tat ok_X9_lineNow_1 (i := 3) (q := 83) rfl rfl) bp_121 <|
    oP_case (jx (P := oP P) kk rfl) (fun v5 e5 _ => V_cv4 (ct_X9_is I L 3 100 97 121  e5) mo_X9_is (tat ok_X9_lineNow_1 (i := 4) (q := 86) rfl rfl) ml_X9_117 rfl ⟨by decide, _, rfl, rfl⟩ ⟨(Nat.le_of_ble_eq_true rfl), (Nat.le_of_ble_eq_true rfl)⟩ ⟨(Nat.le_of_ble_eq_true rfl), (Nat.le_of_ble_eq_true rfl)⟩ (Nat.le_of_ble_eq_true rfl) <|
    V_if_eq (tat ok_X9_lineNow_1 (i := 5) (q := 89) rfl rfl) rfl (fun c6 => V_bipush (tat ok_X9_lineNow_1 (i := 8) (q := 96) rfl rfl) bp_m4 <|
    V_X9_lineNow_96  hr (jx (P := oP P) kk (Eq.trans (ob e5) (if_pos c6)))) (fun c6 => V_bipush (tat ok_X9_lineNow_1 (i := 6) (q := 91) rfl rfl) bp_12 <|
    V_goto (tat ok_X9_lineNow_1 (i := 7) (q := 94) rfl rfl) rfl <|
    V_X9_lineNow_96  hr (jx (P := oP P) kk (Eq.trans (ob e5) (if_neg c6)))))
def F_X9_lineNow_30 (I : WI) : Option Int32 :=
  (Option.bind (F_X9_is I 7 112 97 116) (fun v3 => (if v3 = 0 then (F_X9_lineNow_75 I) else (Option.bind (F_X9_goesOn I 3 116 101 114) (fun v7 => (if v7 = 0 then (F_X9_lineNow_75 I) else (Option.bind (F_X9_goesOn I 6 110 0 0) (fun v9 => (if v9 = 0 then (F_X9_lineNow_75 I) else some 11)))))))))
theorem V_X9_lineNow_30  {I : WI} {L : WL}   {P : Int32 → Prop} {t : Tg} (hr : ∀ v, P v → t = (some (.int v), ly0, I, L, R0)) (kk : oP P (F_X9_lineNow_30 I)) : V (zM x_X9_lineNow 3 0 0 t) 30 [(0, .ref 33)] [] ly0 I L R0 0 0 :=
  V_aload_n (tat ok_X9_lineNow_0 (i := 16) (q := 31) rfl rfl) 0 rfl rfl <|
    V_bipush (tat ok_X9_lineNow_0 (i := 17) (q := 33) rfl rfl) bp_7 <|
    V_bipush (tat ok_X9_lineNow_0 (i := 18) (q := 35) rfl rfl) bp_112 <|
    V_bipush (tat ok_X9_lineNow_0 (i := 19) (q := 37) rfl rfl) bp_97 <|
    V_bipush (tat ok_X9_lineNow_0 (i := 20) (q := 39) rfl rfl) bp_116 <|
    oP_case (jx (P := oP P) kk rfl) (fun v3 e3 _ => V_cv4 (ct_X9_is I L 7 112 97 116  e3) mo_X9_is (tat ok_X9_lineNow_0 (i := 21) (q := 42) rfl rfl) ml_X9_117 rfl ⟨by decide, _, rfl, rfl⟩ ⟨(Nat.le_of_ble_eq_true rfl), (Nat.le_of_ble_eq_true rfl)⟩ ⟨(Nat.le_of_ble_eq_true rfl), (Nat.le_of_ble_eq_true rfl)⟩ (Nat.le_of_ble_eq_true rfl) <|
    V_if_eq (tat ok_X9_lineNow_0 (i := 22) (q := 45) rfl rfl) rfl (fun c4 => V_X9_lineNow_75  hr (jx (P := oP P) kk (Eq.trans (ob e3) (if_pos c4)))) (fun c4 => V_aload_n (tat ok_X9_lineNow_0 (i := 23) (q := 46) rfl rfl) 0 rfl rfl <|
    V_iconst (tat ok_X9_lineNow_0 (i := 24) (q := 47) rfl rfl) ic_3 <|
    V_bipush (tat ok_X9_lineNow_0 (i := 25) (q := 49) rfl rfl) bp_116 <|
    V_bipush (tat ok_X9_lineNow_0 (i := 26) (q := 51) rfl rfl) bp_101 <|
    V_bipush (tat ok_X9_lineNow_0 (i := 27) (q := 53) rfl rfl) bp_114 <|
    oP_case (jx (P := oP P) kk (Eq.trans (ob e3) (if_neg c4))) (fun v7 e7 _ => V_cv4 (ct_X9_goesOn I L 3 116 101 114  e7) mo_X9_goesOn (tat ok_X9_lineNow_0 (i := 28) (q := 56) rfl rfl) ml_X9_121 rfl ⟨by decide, _, rfl, rfl⟩ ⟨(Nat.le_of_ble_eq_true rfl), (Nat.le_of_ble_eq_true rfl)⟩ ⟨(Nat.le_of_ble_eq_true rfl), (Nat.le_of_ble_eq_true rfl)⟩ (Nat.le_of_ble_eq_true rfl) <|
    V_if_eq (tat ok_X9_lineNow_0 (i := 29) (q := 59) rfl rfl) rfl (fun c8 => V_X9_lineNow_75  hr (jx (P := oP P) kk (Eq.trans (ob e3) (Eq.trans (if_neg c4) (Eq.trans (ob e7) (if_pos c8)))))) (fun c8 => V_aload_n (tat ok_X9_lineNow_0 (i := 30) (q := 60) rfl rfl) 0 rfl rfl <|
    V_bipush (tat ok_X9_lineNow_0 (i := 31) (q := 62) rfl rfl) bp_6 <|
    V_bipush (tat ok_X9_lineNow_0 (i := 32) (q := 64) rfl rfl) bp_110 <|
    V_iconst (tat ok_X9_lineNow_0 (i := 33) (q := 65) rfl rfl) ic_0 <|
    V_iconst (tat ok_X9_lineNow_0 (i := 34) (q := 66) rfl rfl) ic_0 <|
    oP_case (jx (P := oP P) kk (Eq.trans (ob e3) (Eq.trans (if_neg c4) (Eq.trans (ob e7) (if_neg c8))))) (fun v9 e9 _ => V_cv4 (ct_X9_goesOn I L 6 110 0 0  e9) mo_X9_goesOn (tat ok_X9_lineNow_0 (i := 35) (q := 69) rfl rfl) ml_X9_121 rfl ⟨by decide, _, rfl, rfl⟩ ⟨(Nat.le_of_ble_eq_true rfl), (Nat.le_of_ble_eq_true rfl)⟩ ⟨(Nat.le_of_ble_eq_true rfl), (Nat.le_of_ble_eq_true rfl)⟩ (Nat.le_of_ble_eq_true rfl) <|
    V_if_eq (tat ok_X9_lineNow_0 (i := 36) (q := 72) rfl rfl) rfl (fun c10 => V_X9_lineNow_75  hr (jx (P := oP P) kk (Eq.trans (ob e3) (Eq.trans (if_neg c4) (Eq.trans (ob e7) (Eq.trans (if_neg c8) (Eq.trans (ob e9) (if_pos c10)))))))) (fun c10 => V_bipush (tat ok_X9_lineNow_0 (i := 37) (q := 74) rfl rfl) bp_11 <|
    V_iret (tat ok_X9_lineNow_0 (i := 38) (q := 75) rfl rfl) _ rfl (nar_int _) (hr 11 (jx (P := oP P) kk (Eq.trans (ob e3) (Eq.trans (if_neg c4) (Eq.trans (ob e7) (Eq.trans (if_neg c8) (Eq.trans (ob e9) (if_neg c10)))))))) ⟨(Nat.le_of_ble_eq_true rfl), (Nat.le_of_ble_eq_true rfl)⟩))))))
def F_X9_lineNow (I : WI) : Option Int32 :=
  (Option.bind (F_X9_is I 5 99 108 111) (fun v1 => (if v1 = 0 then (F_X9_lineNow_30 I) else (Option.bind (F_X9_goesOn I 3 116 104 0) (fun v11 => (if v11 = 0 then (F_X9_lineNow_30 I) else some 10))))))
theorem V_X9_lineNow  {I : WI} {L : WL}   {P : Int32 → Prop} {t : Tg} (hr : ∀ v, P v → t = (some (.int v), ly0, I, L, R0)) (kk : oP P (F_X9_lineNow I)) : V (zM x_X9_lineNow 3 0 0 t) 0 [(0, .ref 33)] [] ly0 I L R0 0 0 :=
  V_aload_n (tat ok_X9_lineNow_0 (i := 0) (q := 1) rfl rfl) 0 rfl rfl <|
    V_iconst (tat ok_X9_lineNow_0 (i := 1) (q := 2) rfl rfl) ic_5 <|
    V_bipush (tat ok_X9_lineNow_0 (i := 2) (q := 4) rfl rfl) bp_99 <|
    V_bipush (tat ok_X9_lineNow_0 (i := 3) (q := 6) rfl rfl) bp_108 <|
    V_bipush (tat ok_X9_lineNow_0 (i := 4) (q := 8) rfl rfl) bp_111 <|
    oP_case (jx (P := oP P) kk rfl) (fun v1 e1 _ => V_cv4 (ct_X9_is I L 5 99 108 111  e1) mo_X9_is (tat ok_X9_lineNow_0 (i := 5) (q := 11) rfl rfl) ml_X9_117 rfl ⟨by decide, _, rfl, rfl⟩ ⟨(Nat.le_of_ble_eq_true rfl), (Nat.le_of_ble_eq_true rfl)⟩ ⟨(Nat.le_of_ble_eq_true rfl), (Nat.le_of_ble_eq_true rfl)⟩ (Nat.le_of_ble_eq_true rfl) <|
    V_if_eq (tat ok_X9_lineNow_0 (i := 6) (q := 14) rfl rfl) rfl (fun c2 => V_X9_lineNow_30  hr (jx (P := oP P) kk (Eq.trans (ob e1) (if_pos c2)))) (fun c2 => V_aload_n (tat ok_X9_lineNow_0 (i := 7) (q := 15) rfl rfl) 0 rfl rfl <|
    V_iconst (tat ok_X9_lineNow_0 (i := 8) (q := 16) rfl rfl) ic_3 <|
    V_bipush (tat ok_X9_lineNow_0 (i := 9) (q := 18) rfl rfl) bp_116 <|
    V_bipush (tat ok_X9_lineNow_0 (i := 10) (q := 20) rfl rfl) bp_104 <|
    V_iconst (tat ok_X9_lineNow_0 (i := 11) (q := 21) rfl rfl) ic_0 <|
    oP_case (jx (P := oP P) kk (Eq.trans (ob e1) (if_neg c2))) (fun v11 e11 _ => V_cv4 (ct_X9_goesOn I L 3 116 104 0  e11) mo_X9_goesOn (tat ok_X9_lineNow_0 (i := 12) (q := 24) rfl rfl) ml_X9_121 rfl ⟨by decide, _, rfl, rfl⟩ ⟨(Nat.le_of_ble_eq_true rfl), (Nat.le_of_ble_eq_true rfl)⟩ ⟨(Nat.le_of_ble_eq_true rfl), (Nat.le_of_ble_eq_true rfl)⟩ (Nat.le_of_ble_eq_true rfl) <|
    V_if_eq (tat ok_X9_lineNow_0 (i := 13) (q := 27) rfl rfl) rfl (fun c12 => V_X9_lineNow_30  hr (jx (P := oP P) kk (Eq.trans (ob e1) (Eq.trans (if_neg c2) (Eq.trans (ob e11) (if_pos c12)))))) (fun c12 => V_bipush (tat ok_X9_lineNow_0 (i := 14) (q := 29) rfl rfl) bp_10 <|
    V_iret (tat ok_X9_lineNow_0 (i := 15) (q := 30) rfl rfl) _ rfl (nar_int _) (hr 10 (jx (P := oP P) kk (Eq.trans (ob e1) (Eq.trans (if_neg c2) (Eq.trans (ob e11) (if_neg c12)))))) ⟨(Nat.le_of_ble_eq_true rfl), (Nat.le_of_ble_eq_true rfl)⟩))))
theorem ct_X9_lineNow  (I : WI) (L : WL)  {v : Int32} (h : (F_X9_lineNow I) = some v) : Ct x_X9_lineNow 3 [.ref 33] ly0 I L R0 0 0 (some (.int v), ly0, I, L, R0) :=
  Ct_of_V mo_X9_lineNow.1 (Nat.le_of_ble_eq_true rfl) (V_X9_lineNow (P := fun x => x = v)  (fun _ e => by rw [e]) (by rw [h]; exact rfl))
def F_X9_actNow_80 (I : WI)  (s0 : Int32) : Option Int32 :=
  some s0
theorem V_X9_actNow_80  {I : WI} {L : WL}  {s0 : Int32} {P : Int32 → Prop} {t : Tg} (hr : ∀ v, P v → t = (some (.int v), ly0, I, L, R0)) (kk : oP P (F_X9_actNow_80 I s0)) : V (zM x_X9_actNow 3 0 0 t) 80 [(0, .ref 33)] [.int s0] ly0 I L R0 0 0 :=
  V_iret (tat ok_X9_actNow_1 (i := 2) (q := 81) rfl rfl) _ rfl (nar_int _) (hr s0 (jx (P := oP P) kk rfl)) ⟨(Nat.le_of_ble_eq_true rfl), (Nat.le_of_ble_eq_true rfl)⟩
def F_X9_actNow_78 (I : WI) : Option Int32 :=
  (F_X9_actNow_80 I (-4))
theorem V_X9_actNow_78  {I : WI} {L : WL}   {P : Int32 → Prop} {t : Tg} (hr : ∀ v, P v → t = (some (.int v), ly0, I, L, R0)) (kk : oP P (F_X9_actNow_78 I)) : V (zM x_X9_actNow 3 0 0 t) 78 [(0, .ref 33)] [] ly0 I L R0 0 0 :=
  V_bipush (tat ok_X9_actNow_1 (i := 1) (q := 80) rfl rfl) bp_m4 <|
    V_X9_actNow_80  hr (jx (P := oP P) kk rfl)
def F_X9_actNow_47 (I : WI) : Option Int32 :=
  (Option.bind (F_X9_is I 5 115 108 97) (fun v5 => (if v5 = 0 then (F_X9_actNow_78 I) else (Option.bind (F_X9_goesOn I 3 110 116 0) (fun v7 => (if v7 = 0 then (F_X9_actNow_78 I) else (F_X9_actNow_80 I 2)))))))
theorem V_X9_actNow_47  {I : WI} {L : WL}   {P : Int32 → Prop} {t : Tg} (hr : ∀ v, P v → t = (some (.int v), ly0, I, L, R0)) (kk : oP P (F_X9_actNow_47 I)) : V (zM x_X9_actNow 3 0 0 t) 47 [(0, .ref 33)] [] ly0 I L R0 0 0 :=
  V_aload_n (tat ok_X9_actNow_0 (i := 25) (q := 48) rfl rfl) 0 rfl rfl <|
    V_iconst (tat ok_X9_actNow_0 (i := 26) (q := 49) rfl rfl) ic_5 <|
    V_bipush (tat ok_X9_actNow_0 (i := 27) (q := 51) rfl rfl) bp_115 <|
    V_bipush (tat ok_X9_actNow_0 (i := 28) (q := 53) rfl rfl) bp_108 <|
    V_bipush (tat ok_X9_actNow_0 (i := 29) (q := 55) rfl rfl) bp_97 <|
    oP_case (jx (P := oP P) kk rfl) (fun v5 e5 _ => V_cv4 (ct_X9_is I L 5 115 108 97  e5) mo_X9_is (tat ok_X9_actNow_0 (i := 30) (q := 58) rfl rfl) ml_X9_117 rfl ⟨by decide, _, rfl, rfl⟩ ⟨(Nat.le_of_ble_eq_true rfl), (Nat.le_of_ble_eq_true rfl)⟩ ⟨(Nat.le_of_ble_eq_true rfl), (Nat.le_of_ble_eq_true rfl)⟩ (Nat.le_of_ble_eq_true rfl) <|
    V_if_eq (tat ok_X9_actNow_0 (i := 31) (q := 61) rfl rfl) rfl (fun c6 => V_X9_actNow_78  hr (jx (P := oP P) kk (Eq.trans (ob e5) (if_pos c6)))) (fun c6 => V_aload_n (tat ok_X9_actNow_0 (i := 32) (q := 62) rfl rfl) 0 rfl rfl <|
    V_iconst (tat ok_X9_actNow_0 (i := 33) (q := 63) rfl rfl) ic_3 <|
    V_bipush (tat ok_X9_actNow_0 (i := 34) (q := 65) rfl rfl) bp_110 <|
    V_bipush (tat ok_X9_actNow_0 (i := 35) (q := 67) rfl rfl) bp_116 <|
    V_iconst (tat ok_X9_actNow_0 (i := 36) (q := 68) rfl rfl) ic_0 <|
    oP_case (jx (P := oP P) kk (Eq.trans (ob e5) (if_neg c6))) (fun v7 e7 _ => V_cv4 (ct_X9_goesOn I L 3 110 116 0  e7) mo_X9_goesOn (tat ok_X9_actNow_0 (i := 37) (q := 71) rfl rfl) ml_X9_121 rfl ⟨by decide, _, rfl, rfl⟩ ⟨(Nat.le_of_ble_eq_true rfl), (Nat.le_of_ble_eq_true rfl)⟩ ⟨(Nat.le_of_ble_eq_true rfl), (Nat.le_of_ble_eq_true rfl)⟩ (Nat.le_of_ble_eq_true rfl) <|
    V_if_eq (tat ok_X9_actNow_0 (i := 38) (q := 74) rfl rfl) rfl (fun c8 => V_X9_actNow_78  hr (jx (P := oP P) kk (Eq.trans (ob e5) (Eq.trans (if_neg c6) (Eq.trans (ob e7) (if_pos c8)))))) (fun c8 => V_iconst (tat ok_X9_actNow_0 (i := 39) (q := 75) rfl rfl) ic_2 <|
    V_goto (tat ok_X9_actNow_1 (i := 0) (q := 78) rfl rfl) rfl <|
    V_X9_actNow_80  hr (jx (P := oP P) kk (Eq.trans (ob e5) (Eq.trans (if_neg c6) (Eq.trans (ob e7) (if_neg c8)))))))))
def F_X9_actNow (I : WI) : Option Int32 :=
  (Option.bind (F_X9_is I 3 114 111 119) (fun v1 => (if v1 = 0 then (Option.bind (F_X9_is I 6 99 111 108) (fun v3 => (if v3 = 0 then (F_X9_actNow_47 I) else (Option.bind (F_X9_goesOn I 3 117 109 110) (fun v9 => (if v9 = 0 then (F_X9_actNow_47 I) else some 1)))))) else some 0)))
theorem V_X9_actNow  {I : WI} {L : WL}   {P : Int32 → Prop} {t : Tg} (hr : ∀ v, P v → t = (some (.int v), ly0, I, L, R0)) (kk : oP P (F_X9_actNow I)) : V (zM x_X9_actNow 3 0 0 t) 0 [(0, .ref 33)] [] ly0 I L R0 0 0 :=
  V_aload_n (tat ok_X9_actNow_0 (i := 0) (q := 1) rfl rfl) 0 rfl rfl <|
    V_iconst (tat ok_X9_actNow_0 (i := 1) (q := 2) rfl rfl) ic_3 <|
    V_bipush (tat ok_X9_actNow_0 (i := 2) (q := 4) rfl rfl) bp_114 <|
    V_bipush (tat ok_X9_actNow_0 (i := 3) (q := 6) rfl rfl) bp_111 <|
    V_bipush (tat ok_X9_actNow_0 (i := 4) (q := 8) rfl rfl) bp_119 <|
    oP_case (jx (P := oP P) kk rfl) (fun v1 e1 _ => V_cv4 (ct_X9_is I L 3 114 111 119  e1) mo_X9_is (tat ok_X9_actNow_0 (i := 5) (q := 11) rfl rfl) ml_X9_117 rfl ⟨by decide, _, rfl, rfl⟩ ⟨(Nat.le_of_ble_eq_true rfl), (Nat.le_of_ble_eq_true rfl)⟩ ⟨(Nat.le_of_ble_eq_true rfl), (Nat.le_of_ble_eq_true rfl)⟩ (Nat.le_of_ble_eq_true rfl) <|
    V_if_eq (tat ok_X9_actNow_0 (i := 6) (q := 14) rfl rfl) rfl (fun c2 => V_aload_n (tat ok_X9_actNow_0 (i := 9) (q := 17) rfl rfl) 0 rfl rfl <|
    V_bipush (tat ok_X9_actNow_0 (i := 10) (q := 19) rfl rfl) bp_6 <|
    V_bipush (tat ok_X9_actNow_0 (i := 11) (q := 21) rfl rfl) bp_99 <|
    V_bipush (tat ok_X9_actNow_0 (i := 12) (q := 23) rfl rfl) bp_111 <|
    V_bipush (tat ok_X9_actNow_0 (i := 13) (q := 25) rfl rfl) bp_108 <|
    oP_case (jx (P := oP P) kk (Eq.trans (ob e1) (if_pos c2))) (fun v3 e3 _ => V_cv4 (ct_X9_is I L 6 99 111 108  e3) mo_X9_is (tat ok_X9_actNow_0 (i := 14) (q := 28) rfl rfl) ml_X9_117 rfl ⟨by decide, _, rfl, rfl⟩ ⟨(Nat.le_of_ble_eq_true rfl), (Nat.le_of_ble_eq_true rfl)⟩ ⟨(Nat.le_of_ble_eq_true rfl), (Nat.le_of_ble_eq_true rfl)⟩ (Nat.le_of_ble_eq_true rfl) <|
    V_if_eq (tat ok_X9_actNow_0 (i := 15) (q := 31) rfl rfl) rfl (fun c4 => V_X9_actNow_47  hr (jx (P := oP P) kk (Eq.trans (ob e1) (Eq.trans (if_pos c2) (Eq.trans (ob e3) (if_pos c4)))))) (fun c4 => V_aload_n (tat ok_X9_actNow_0 (i := 16) (q := 32) rfl rfl) 0 rfl rfl <|
    V_iconst (tat ok_X9_actNow_0 (i := 17) (q := 33) rfl rfl) ic_3 <|
    V_bipush (tat ok_X9_actNow_0 (i := 18) (q := 35) rfl rfl) bp_117 <|
    V_bipush (tat ok_X9_actNow_0 (i := 19) (q := 37) rfl rfl) bp_109 <|
    V_bipush (tat ok_X9_actNow_0 (i := 20) (q := 39) rfl rfl) bp_110 <|
    oP_case (jx (P := oP P) kk (Eq.trans (ob e1) (Eq.trans (if_pos c2) (Eq.trans (ob e3) (if_neg c4))))) (fun v9 e9 _ => V_cv4 (ct_X9_goesOn I L 3 117 109 110  e9) mo_X9_goesOn (tat ok_X9_actNow_0 (i := 21) (q := 42) rfl rfl) ml_X9_121 rfl ⟨by decide, _, rfl, rfl⟩ ⟨(Nat.le_of_ble_eq_true rfl), (Nat.le_of_ble_eq_true rfl)⟩ ⟨(Nat.le_of_ble_eq_true rfl), (Nat.le_of_ble_eq_true rfl)⟩ (Nat.le_of_ble_eq_true rfl) <|
    V_if_eq (tat ok_X9_actNow_0 (i := 22) (q := 45) rfl rfl) rfl (fun c10 => V_X9_actNow_47  hr (jx (P := oP P) kk (Eq.trans (ob e1) (Eq.trans (if_pos c2) (Eq.trans (ob e3) (Eq.trans (if_neg c4) (Eq.trans (ob e9) (if_pos c10)))))))) (fun c10 => V_iconst (tat ok_X9_actNow_0 (i := 23) (q := 46) rfl rfl) ic_1 <|
    V_iret (tat ok_X9_actNow_0 (i := 24) (q := 47) rfl rfl) _ rfl (nar_int _) (hr 1 (jx (P := oP P) kk (Eq.trans (ob e1) (Eq.trans (if_pos c2) (Eq.trans (ob e3) (Eq.trans (if_neg c4) (Eq.trans (ob e9) (if_neg c10)))))))) ⟨(Nat.le_of_ble_eq_true rfl), (Nat.le_of_ble_eq_true rfl)⟩))))) (fun c2 => V_iconst (tat ok_X9_actNow_0 (i := 7) (q := 15) rfl rfl) ic_0 <|
    V_iret (tat ok_X9_actNow_0 (i := 8) (q := 16) rfl rfl) _ rfl (nar_int _) (hr 0 (jx (P := oP P) kk (Eq.trans (ob e1) (if_neg c2)))) ⟨(Nat.le_of_ble_eq_true rfl), (Nat.le_of_ble_eq_true rfl)⟩))
theorem ct_X9_actNow  (I : WI) (L : WL)  {v : Int32} (h : (F_X9_actNow I) = some v) : Ct x_X9_actNow 3 [.ref 33] ly0 I L R0 0 0 (some (.int v), ly0, I, L, R0) :=
  Ct_of_V mo_X9_actNow.1 (Nat.le_of_ble_eq_true rfl) (V_X9_actNow (P := fun x => x = v)  (fun _ e => by rw [e]) (by rw [h]; exact rfl))
def F_X9_isRowName_56_1 (I : WI) (a2 : Int32) (s0 : Int32) : Option Int32 :=
  some s0
theorem V_X9_isRowName_56_1  {I : WI} {L : WL} {a2 : Int32} {s0 : Int32} {P : Int32 → Prop} {t : Tg} (hs0 : bz s0 = s0) (hk : ∀ x : Int32, P x → V (zM x_X9_isRowName 2 0 0 t) 19 [(0, .ref 33), (1, .int x), (2, .int (a2 + 1))] [] ly0 I L R0 0 0) (kk : oP P (F_X9_isRowName_56_1 I a2 s0)) : V (zM x_X9_isRowName 2 0 0 t) 56 [(0, .ref 33), (2, .int a2)] [.int s0] ly0 I L R0 0 0 :=
  V_istore_n (lv' := [(1, .int s0), (0, .ref 33), (2, .int a2)]) (tat ok_X9_isRowName_0 (i := 30) (q := 57) rfl rfl) rfl (Nat.le_of_ble_eq_true rfl) rfl <|
    V_iinc (v := (a2 + 1)) (lv' := [(2, .int (a2 + 1)), (1, .int s0), (0, .ref 33)]) (tat ok_X9_isRowName_0 (i := 31) (q := 60) rfl rfl) 2 rfl (ia ic_1) (Nat.le_of_ble_eq_true rfl) rfl <|
    V_goto (tat ok_X9_isRowName_0 (i := 32) (q := 63) rfl rfl) rfl <|
    V_pick [2, 1, 0] rfl (hk s0 (jx (P := oP P) kk rfl))
def F_X9_isRowName_55_1 (I : WI) (a2 : Int32) : Option Int32 :=
  (F_X9_isRowName_56_1 I a2 0)
theorem V_X9_isRowName_55_1  {I : WI} {L : WL} {a2 : Int32}  {P : Int32 → Prop} {t : Tg} (hk : ∀ x : Int32, P x → V (zM x_X9_isRowName 2 0 0 t) 19 [(0, .ref 33), (1, .int x), (2, .int (a2 + 1))] [] ly0 I L R0 0 0) (kk : oP P (F_X9_isRowName_55_1 I a2)) : V (zM x_X9_isRowName 2 0 0 t) 55 [(0, .ref 33), (2, .int a2)] [] ly0 I L R0 0 0 :=
  V_iconst (tat ok_X9_isRowName_0 (i := 29) (q := 56) rfl rfl) ic_0 <|
    V_X9_isRowName_56_1 rfl hk (jx (P := oP P) kk rfl)
def F_X9_isRowName_51_1 (I : WI) (a2 : Int32) : Option Int32 :=
  (F_X9_isRowName_56_1 I a2 1)
theorem V_X9_isRowName_51_1  {I : WI} {L : WL} {a2 : Int32}  {P : Int32 → Prop} {t : Tg} (hk : ∀ x : Int32, P x → V (zM x_X9_isRowName 2 0 0 t) 19 [(0, .ref 33), (1, .int x), (2, .int (a2 + 1))] [] ly0 I L R0 0 0) (kk : oP P (F_X9_isRowName_51_1 I a2)) : V (zM x_X9_isRowName 2 0 0 t) 51 [(0, .ref 33), (2, .int a2)] [] ly0 I L R0 0 0 :=
  V_iconst (tat ok_X9_isRowName_0 (i := 27) (q := 52) rfl rfl) ic_1 <|
    V_goto (tat ok_X9_isRowName_0 (i := 28) (q := 55) rfl rfl) rfl <|
    V_X9_isRowName_56_1 rfl hk (jx (P := oP P) kk rfl)
def F_X9_isRowName_27_1 (I : WI) (a2 : Int32) (a1 : Int32) : Option Int32 :=
  (if a1 = 0 then (F_X9_isRowName_55_1 I a2) else (Option.bind (F_X9_look I a2) (fun v3 => (if v3 = 100 then (F_X9_isRowName_51_1 I a2) else (Option.bind (F_X9_look I a2) (fun v5 => (if v5 = 108 then (F_X9_isRowName_51_1 I a2) else (F_X9_isRowName_55_1 I a2))))))))
theorem V_X9_isRowName_27_1  {I : WI} {L : WL} {a2 : Int32} {a1 : Int32} {P : Int32 → Prop} {t : Tg} (hk : ∀ x : Int32, P x → V (zM x_X9_isRowName 2 0 0 t) 19 [(0, .ref 33), (1, .int x), (2, .int (a2 + 1))] [] ly0 I L R0 0 0) (kk : oP P (F_X9_isRowName_27_1 I a2 a1)) : V (zM x_X9_isRowName 2 0 0 t) 27 [(0, .ref 33), (1, .int a1), (2, .int a2)] [] ly0 I L R0 0 0 :=
  V_iload_n (tat ok_X9_isRowName_0 (i := 15) (q := 28) rfl rfl) 1 rfl rfl <|
    V_if_eq (tat ok_X9_isRowName_0 (i := 16) (q := 31) rfl rfl) rfl (fun c2 => V_pick [0, 2] rfl (V_X9_isRowName_55_1  hk (jx (P := oP P) kk (if_pos c2)))) (fun c2 => V_aload_n (tat ok_X9_isRowName_0 (i := 17) (q := 32) rfl rfl) 0 rfl rfl <|
    V_iload_n (tat ok_X9_isRowName_0 (i := 18) (q := 33) rfl rfl) 2 rfl rfl <|
    oP_case (jx (P := oP P) kk (if_neg c2)) (fun v3 e3 _ => V_cv1 (ct_X9_look I L a2  e3) mo_X9_look (tat ok_X9_isRowName_0 (i := 19) (q := 36) rfl rfl) ml_X9_113 rfl ⟨by decide, _, rfl, rfl⟩ ⟨(Nat.le_of_ble_eq_true rfl), (Nat.le_of_ble_eq_true rfl)⟩ ⟨(Nat.le_of_ble_eq_true rfl), (Nat.le_of_ble_eq_true rfl)⟩ (Nat.le_of_ble_eq_true rfl) <|
    V_bipush (tat ok_X9_isRowName_0 (i := 20) (q := 38) rfl rfl) bp_100 <|
    V_icmp_eq (tat ok_X9_isRowName_0 (i := 21) (q := 41) rfl rfl) rfl (fun c4 => V_pick [0, 2] rfl (V_X9_isRowName_51_1  hk (jx (P := oP P) kk (Eq.trans (if_neg c2) (Eq.trans (ob e3) (if_pos c4)))))) (fun c4 => V_aload_n (tat ok_X9_isRowName_0 (i := 22) (q := 42) rfl rfl) 0 rfl rfl <|
    V_iload_n (tat ok_X9_isRowName_0 (i := 23) (q := 43) rfl rfl) 2 rfl rfl <|
    oP_case (jx (P := oP P) kk (Eq.trans (if_neg c2) (Eq.trans (ob e3) (if_neg c4)))) (fun v5 e5 _ => V_cv1 (ct_X9_look I L a2  e5) mo_X9_look (tat ok_X9_isRowName_0 (i := 24) (q := 46) rfl rfl) ml_X9_113 rfl ⟨by decide, _, rfl, rfl⟩ ⟨(Nat.le_of_ble_eq_true rfl), (Nat.le_of_ble_eq_true rfl)⟩ ⟨(Nat.le_of_ble_eq_true rfl), (Nat.le_of_ble_eq_true rfl)⟩ (Nat.le_of_ble_eq_true rfl) <|
    V_bipush (tat ok_X9_isRowName_0 (i := 25) (q := 48) rfl rfl) bp_108 <|
    V_icmp_ne (tat ok_X9_isRowName_0 (i := 26) (q := 51) rfl rfl) rfl (fun c6 => V_pick [0, 2] rfl (V_X9_isRowName_55_1  hk (jx (P := oP P) kk (Eq.trans (if_neg c2) (Eq.trans (ob e3) (Eq.trans (if_neg c4) (Eq.trans (ob e5) (if_neg c6)))))))) (fun c6 => V_pick [0, 2] rfl (V_X9_isRowName_51_1  hk (jx (P := oP P) kk (Eq.trans (if_neg c2) (Eq.trans (ob e3) (Eq.trans (if_neg c4) (Eq.trans (ob e5) (if_pos c6))))))))))))
def F_X9_isRowName_63 (I : WI)  (a1 : Int32) : Option Int32 :=
  (if bz a1 = a1 then some a1 else none)
theorem V_X9_isRowName_63  {I : WI} {L : WL}  {a1 : Int32} {P : Int32 → Prop} {t : Tg} (hr : ∀ v, P v → t = (some (.int v), ly0, I, L, R0)) (kk : oP P (F_X9_isRowName_63 I a1)) : V (zM x_X9_isRowName 2 0 0 t) 63 [(0, .ref 33), (1, .int a1)] [] ly0 I L R0 0 0 :=
  V_iload_n (tat ok_X9_isRowName_0 (i := 33) (q := 64) rfl rfl) 1 rfl rfl <|
    (if c7 : bz a1 = a1 then V_iret (tat ok_X9_isRowName_0 (i := 34) (q := 65) rfl rfl) _ rfl (bz_nf c7).1 (hr a1 (jx (P := oP P) kk (if_pos c7))) ⟨(Nat.le_of_ble_eq_true rfl), (Nat.le_of_ble_eq_true rfl)⟩ else ((jx (P := oP P) kk (if_neg c7))).elim)
def F_X9_isRowName_19 (I : WI)  (a1 : Int32) (a2 : Int32) : Option Int32 :=
  (frp0 (fun i x => (F_X9_isRowName_27_1 I i x)) (I 33 22) (fu a2 (I 33 22)) a2 a1).bind (fun q => (F_X9_isRowName_63 I (p2 q)))
theorem V_X9_isRowName_19  {I : WI} {L : WL}  {a1 : Int32} {a2 : Int32} {P : Int32 → Prop} {t : Tg} (hb1 : bz a1 = a1) (hr : ∀ v, P v → t = (some (.int v), ly0, I, L, R0)) (kk : oP P (F_X9_isRowName_19 I a1 a2)) : V (zM x_X9_isRowName 2 0 0 t) 19 [(0, .ref 33), (1, .int a1), (2, .int a2)] [] ly0 I L R0 0 0 :=
  V_frp0 (fun i x => (F_X9_isRowName_27_1 I i x)) (I 33 22) (fun i x => V (zM x_X9_isRowName 2 0 0 t) 19 [(0, .ref 33), (1, .int x), (2, .int i)] [] ly0 I L R0 0 0) (fun i x => oP P ((F_X9_isRowName_63 I x))) (c := a2) (s := a1) (fun i x kx kb => V_iload_n (tat ok_X9_isRowName_0 (i := 11) (q := 20) rfl rfl) 2 rfl rfl <|
    V_aload_n (tat ok_X9_isRowName_0 (i := 12) (q := 21) rfl rfl) 0 rfl rfl <|
    V_getI (tat ok_X9_isRowName_0 (i := 13) (q := 24) rfl rfl) fk_X9_110 rfl <|
    V_icmp_ge (tat ok_X9_isRowName_0 (i := 14) (q := 27) rfl rfl) rfl (fun c0 => V_pick [0, 1] rfl (V_X9_isRowName_63  hr (kx c0))) (fun c0 => V_X9_isRowName_27_1 (P := (fun x => (fun i x => V (zM x_X9_isRowName 2 0 0 t) 19 [(0, .ref 33), (1, .int x), (2, .int i)] [] ly0 I L R0 0 0) (i + 1) x))  (fun _ e => e) (kb c0))) (oP_bind (f := fun q => _) kk)
def F_X9_isRowName_13 (I : WI)  (s0 : Int32) : Option Int32 :=
  (F_X9_isRowName_19 I s0 (I 33 23))
theorem V_X9_isRowName_13  {I : WI} {L : WL}  {s0 : Int32} {P : Int32 → Prop} {t : Tg} (hs0 : bz s0 = s0) (hr : ∀ v, P v → t = (some (.int v), ly0, I, L, R0)) (kk : oP P (F_X9_isRowName_13 I s0)) : V (zM x_X9_isRowName 2 0 0 t) 13 [(0, .ref 33)] [.int s0] ly0 I L R0 0 0 :=
  V_istore_n (lv' := [(1, .int s0), (0, .ref 33)]) (tat ok_X9_isRowName_0 (i := 7) (q := 14) rfl rfl) rfl (Nat.le_of_ble_eq_true rfl) rfl <|
    V_aload_n (tat ok_X9_isRowName_0 (i := 8) (q := 15) rfl rfl) 1 rfl rfl <|
    V_getI (tat ok_X9_isRowName_0 (i := 9) (q := 18) rfl rfl) fk_X9_104 rfl <|
    V_istore_n (lv' := [(2, .int (I 33 23)), (1, .int s0), (0, .ref 33)]) (tat ok_X9_isRowName_0 (i := 10) (q := 19) rfl rfl) rfl (Nat.le_of_ble_eq_true rfl) rfl <|
    V_pick [2, 1, 0] rfl (V_X9_isRowName_19 hs0 hr (jx (P := oP P) kk rfl))
def F_X9_isRowName (I : WI) : Option Int32 :=
  (if (I 33 24) = 1 then (F_X9_isRowName_13 I 1) else (F_X9_isRowName_13 I 0))
theorem V_X9_isRowName  {I : WI} {L : WL}   {P : Int32 → Prop} {t : Tg} (hr : ∀ v, P v → t = (some (.int v), ly0, I, L, R0)) (kk : oP P (F_X9_isRowName I)) : V (zM x_X9_isRowName 2 0 0 t) 0 [(0, .ref 33)] [] ly0 I L R0 0 0 :=
  V_aload_n (tat ok_X9_isRowName_0 (i := 0) (q := 1) rfl rfl) 0 rfl rfl <|
    V_getI (tat ok_X9_isRowName_0 (i := 1) (q := 4) rfl rfl) fk_X9_124 rfl <|
    V_iconst (tat ok_X9_isRowName_0 (i := 2) (q := 5) rfl rfl) ic_1 <|
    V_icmp_ne (tat ok_X9_isRowName_0 (i := 3) (q := 8) rfl rfl) rfl (fun c1 => V_iconst (tat ok_X9_isRowName_0 (i := 6) (q := 13) rfl rfl) ic_0 <|
    V_X9_isRowName_13 rfl hr (jx (P := oP P) kk (if_neg c1))) (fun c1 => V_iconst (tat ok_X9_isRowName_0 (i := 4) (q := 9) rfl rfl) ic_1 <|
    V_goto (tat ok_X9_isRowName_0 (i := 5) (q := 12) rfl rfl) rfl <|
    V_X9_isRowName_13 rfl hr (jx (P := oP P) kk (if_pos c1)))
theorem ct_X9_isRowName  (I : WI) (L : WL)  {v : Int32} (h : (F_X9_isRowName I) = some v) : Ct x_X9_isRowName 2 [.ref 33] ly0 I L R0 0 0 (some (.int v), ly0, I, L, R0) :=
  Ct_of_V mo_X9_isRowName.1 (Nat.le_of_ble_eq_true rfl) (V_X9_isRowName (P := fun x => x = v)  (fun _ e => by rw [e]) (by rw [h]; exact rfl))
def F_X9_next_8_1 (I : WI) : Option (WI ⊕ WI) :=
  (Option.bind (F_X9_look I (I 33 22)) (fun v2 => (if v2 = 32 then some (.inr (u2 I 33 22 ((I 33 22) + 1))) else some (.inl I))))
theorem V_X9_next_8_1  {I : WI} {L : WL}   {P : (WI ⊕ WI) → Prop} {t : Tg} (he : ∀ x : WI, P (.inl x) → V (zM x_X9_next 2 0 0 t) 34 [(0, .ref 33)] [] ly0 x L R0 0 0) (hk : ∀ x : WI, P (.inr x) → V (zM x_X9_next 2 0 0 t) 8 [(0, .ref 33)] [] ly0 x L R0 0 0) (kk : oP P (F_X9_next_8_1 I)) : V (zM x_X9_next 2 0 0 t) 8 [(0, .ref 33)] [] ly0 I L R0 0 0 :=
  V_aload_n (tat ok_X9_next_0 (i := 4) (q := 9) rfl rfl) 0 rfl rfl <|
    V_aload_n (tat ok_X9_next_0 (i := 5) (q := 10) rfl rfl) 0 rfl rfl <|
    V_getI (tat ok_X9_next_0 (i := 6) (q := 13) rfl rfl) fk_X9_110 rfl <|
    oP_case (jx (P := oP P) kk rfl) (fun v2 e2 _ => V_cv1 (ct_X9_look I L (I 33 22)  e2) mo_X9_look (tat ok_X9_next_0 (i := 7) (q := 16) rfl rfl) ml_X9_113 rfl ⟨by decide, _, rfl, rfl⟩ ⟨(Nat.le_of_ble_eq_true rfl), (Nat.le_of_ble_eq_true rfl)⟩ ⟨(Nat.le_of_ble_eq_true rfl), (Nat.le_of_ble_eq_true rfl)⟩ (Nat.le_of_ble_eq_true rfl) <|
    V_bipush (tat ok_X9_next_0 (i := 8) (q := 18) rfl rfl) bp_32 <|
    V_icmp_ne (tat ok_X9_next_0 (i := 9) (q := 21) rfl rfl) rfl (fun c3 => he I (jx (P := oP P) kk (Eq.trans (ob e2) (if_neg c3)))) (fun c3 => V_aload_n (tat ok_X9_next_0 (i := 10) (q := 22) rfl rfl) 0 rfl rfl <|
    V_dup (tat ok_X9_next_0 (i := 11) (q := 23) rfl rfl) rfl <|
    V_getI (tat ok_X9_next_0 (i := 12) (q := 26) rfl rfl) fk_X9_110 rfl <|
    V_iconst (tat ok_X9_next_0 (i := 13) (q := 27) rfl rfl) ic_1 <|
    V_iadd (tat ok_X9_next_0 (i := 14) (q := 28) rfl rfl) <|
    V_putI (tat ok_X9_next_0 (i := 15) (q := 31) rfl rfl) fk_X9_110 rfl rfl <|
    V_goto (tat ok_X9_next_0 (i := 16) (q := 34) rfl rfl) rfl <|
    hk (u2 I 33 22 ((I 33 22) + 1)) (jx (P := oP P) kk (Eq.trans (ob e2) (if_pos c3)))))
def F_X9_next_274 (I : WI) : Option WI :=
  some I
theorem V_X9_next_274  {I : WI} {L : WL}   {P : WI → Prop} {t : Tg} (hr : ∀ v, P v → t = (none, ly0, v, L, R0)) (kk : oP P (F_X9_next_274 I)) : V (zM x_X9_next 2 0 0 t) 274 [(0, .ref 33)] [] ly0 I L R0 0 0 :=
  V_vret (tat ok_X9_next_3 (i := 20) (q := 275) rfl rfl) rfl (hr I (jx (P := oP P) kk rfl)) ⟨(Nat.le_of_ble_eq_true rfl), (Nat.le_of_ble_eq_true rfl)⟩
def F_X9_next_260 (I : WI)  (s0 : Int32) : Option WI :=
  (F_X9_next_274 (u2 (F_X9_needs I s0 1) 33 22 (((F_X9_needs I s0 1) 33 22) + 1)))
theorem V_X9_next_260  {I : WI} {L : WL}  {s0 : Int32} {P : WI → Prop} {t : Tg} (hs0 : bz s0 = s0) (hr : ∀ v, P v → t = (none, ly0, v, L, R0)) (kk : oP P (F_X9_next_260 I s0)) : V (zM x_X9_next 2 0 0 t) 260 [(0, .ref 33)] [.int s0, .ref 33] ly0 I L R0 0 0 :=
  V_iconst (tat ok_X9_next_3 (i := 12) (q := 261) rfl rfl) ic_1 <|
    V_cv2v (ct_X9_needs I L s0 1 ) mo_X9_needs (tat ok_X9_next_3 (i := 13) (q := 264) rfl rfl) ml_X9_138 rfl ⟨by decide, _, rfl, rfl⟩ ⟨(Nat.le_of_ble_eq_true rfl), (Nat.le_of_ble_eq_true rfl)⟩ ⟨(Nat.le_of_ble_eq_true rfl), (Nat.le_of_ble_eq_true rfl)⟩ (Nat.le_of_ble_eq_true rfl) <|
    V_aload_n (tat ok_X9_next_3 (i := 14) (q := 265) rfl rfl) 0 rfl rfl <|
    V_dup (tat ok_X9_next_3 (i := 15) (q := 266) rfl rfl) rfl <|
    V_getI (tat ok_X9_next_3 (i := 16) (q := 269) rfl rfl) fk_X9_110 rfl <|
    V_iconst (tat ok_X9_next_3 (i := 17) (q := 270) rfl rfl) ic_1 <|
    V_iadd (tat ok_X9_next_3 (i := 18) (q := 271) rfl rfl) <|
    V_putI (tat ok_X9_next_3 (i := 19) (q := 274) rfl rfl) fk_X9_110 rfl rfl <|
    V_X9_next_274  hr (jx (P := oP P) kk rfl)
def F_X9_next_201_2 (I : WI)  (s0 : Int32) : Option (WI ⊕ WI) :=
  some (.inr (u2 (u2 I 33 25 s0) 33 22 (((u2 I 33 25 s0) 33 22) + 1)))
theorem V_X9_next_201_2  {I : WI} {L : WL}  {s0 : Int32} {P : (WI ⊕ WI) → Prop} {t : Tg} (he : ∀ x : WI, P (.inl x) → V (zM x_X9_next 2 0 0 t) 217 [(0, .ref 33)] [] ly0 x L R0 0 0) (hk : ∀ x : WI, P (.inr x) → V (zM x_X9_next 2 0 0 t) 140 [(0, .ref 33)] [] ly0 x L R0 0 0) (kk : oP P (F_X9_next_201_2 I s0)) : V (zM x_X9_next 2 0 0 t) 201 [(0, .ref 33)] [.int s0, .ref 33] ly0 I L R0 0 0 :=
  V_putI (tat ok_X9_next_2 (i := 20) (q := 204) rfl rfl) fk_X9_135 rfl rfl <|
    V_aload_n (tat ok_X9_next_2 (i := 21) (q := 205) rfl rfl) 0 rfl rfl <|
    V_dup (tat ok_X9_next_2 (i := 22) (q := 206) rfl rfl) rfl <|
    V_getI (tat ok_X9_next_2 (i := 23) (q := 209) rfl rfl) fk_X9_110 rfl <|
    V_iconst (tat ok_X9_next_2 (i := 24) (q := 210) rfl rfl) ic_1 <|
    V_iadd (tat ok_X9_next_2 (i := 25) (q := 211) rfl rfl) <|
    V_putI (tat ok_X9_next_2 (i := 26) (q := 214) rfl rfl) fk_X9_110 rfl rfl <|
    V_goto (tat ok_X9_next_2 (i := 27) (q := 217) rfl rfl) rfl <|
    hk (u2 (u2 I 33 25 s0) 33 22 (((u2 I 33 25 s0) 33 22) + 1)) (jx (P := oP P) kk rfl)
def F_X9_next_140_2 (I : WI) : Option (WI ⊕ WI) :=
  (Option.bind (F_X9_look I (I 33 22)) (fun v9 => (if (F_X9_in (Int32.toInt64 v9) 48 57) = 0 then some (.inl I) else (if 2 ≤ ((I 33 22) - (I 33 23)) then (F_X9_next_201_2 I (I 33 25)) else (Option.bind (F_X9_look I (I 33 22)) (fun v12 => (F_X9_next_201_2 I (((10 * (I 33 25)) + v12) - 48))))))))
theorem V_X9_next_140_2  {I : WI} {L : WL}   {P : (WI ⊕ WI) → Prop} {t : Tg} (he : ∀ x : WI, P (.inl x) → V (zM x_X9_next 2 0 0 t) 217 [(0, .ref 33)] [] ly0 x L R0 0 0) (hk : ∀ x : WI, P (.inr x) → V (zM x_X9_next 2 0 0 t) 140 [(0, .ref 33)] [] ly0 x L R0 0 0) (kk : oP P (F_X9_next_140_2 I)) : V (zM x_X9_next 2 0 0 t) 140 [(0, .ref 33)] [] ly0 I L R0 0 0 :=
  V_aload_n (tat ok_X9_next_1 (i := 29) (q := 141) rfl rfl) 0 rfl rfl <|
    V_aload_n (tat ok_X9_next_1 (i := 30) (q := 142) rfl rfl) 0 rfl rfl <|
    V_getI (tat ok_X9_next_1 (i := 31) (q := 145) rfl rfl) fk_X9_110 rfl <|
    oP_case (jx (P := oP P) kk rfl) (fun v9 e9 _ => V_cv1 (ct_X9_look I L (I 33 22)  e9) mo_X9_look (tat ok_X9_next_1 (i := 32) (q := 148) rfl rfl) ml_X9_113 rfl ⟨by decide, _, rfl, rfl⟩ ⟨(Nat.le_of_ble_eq_true rfl), (Nat.le_of_ble_eq_true rfl)⟩ ⟨(Nat.le_of_ble_eq_true rfl), (Nat.le_of_ble_eq_true rfl)⟩ (Nat.le_of_ble_eq_true rfl) <|
    V_i2l (tat ok_X9_next_1 (i := 33) (q := 149) rfl rfl) <|
    V_ldc2 (tat ok_X9_next_1 (i := 34) (q := 152) rfl rfl) (gw_in kl_X9_131 rfl) <|
    V_ldc2 (tat ok_X9_next_1 (i := 35) (q := 155) rfl rfl) (gw_in kl_X9_133 rfl) <|
    V_cs3 (ct_X9_in I L (Int32.toInt64 v9) 48 57 ) mo_X9_in (tat ok_X9_next_1 (i := 36) (q := 158) rfl rfl) ml_X9_97 ⟨(Nat.le_of_ble_eq_true rfl), (Nat.le_of_ble_eq_true rfl)⟩ ⟨(Nat.le_of_ble_eq_true rfl), (Nat.le_of_ble_eq_true rfl)⟩ (Nat.le_of_ble_eq_true rfl) <|
    V_if_eq (tat ok_X9_next_1 (i := 37) (q := 161) rfl rfl) rfl (fun c10 => he I (jx (P := oP P) kk (Eq.trans (ob e9) (if_pos c10)))) (fun c10 => V_aload_n (tat ok_X9_next_1 (i := 38) (q := 162) rfl rfl) 0 rfl rfl <|
    V_aload_n (tat ok_X9_next_1 (i := 39) (q := 163) rfl rfl) 0 rfl rfl <|
    V_getI (tat ok_X9_next_2 (i := 0) (q := 166) rfl rfl) fk_X9_110 rfl <|
    V_aload_n (tat ok_X9_next_2 (i := 1) (q := 167) rfl rfl) 0 rfl rfl <|
    V_getI (tat ok_X9_next_2 (i := 2) (q := 170) rfl rfl) fk_X9_104 rfl <|
    V_isub (tat ok_X9_next_2 (i := 3) (q := 171) rfl rfl) <|
    V_iconst (tat ok_X9_next_2 (i := 4) (q := 172) rfl rfl) ic_2 <|
    V_icmp_ge (tat ok_X9_next_2 (i := 5) (q := 175) rfl rfl) rfl (fun c11 => V_aload_n (tat ok_X9_next_2 (i := 18) (q := 198) rfl rfl) 0 rfl rfl <|
    V_getI (tat ok_X9_next_2 (i := 19) (q := 201) rfl rfl) fk_X9_135 rfl <|
    V_X9_next_201_2  he hk (jx (P := oP P) kk (Eq.trans (ob e9) (Eq.trans (if_neg c10) (if_pos c11))))) (fun c11 => V_bipush (tat ok_X9_next_2 (i := 6) (q := 177) rfl rfl) bp_10 <|
    V_aload_n (tat ok_X9_next_2 (i := 7) (q := 178) rfl rfl) 0 rfl rfl <|
    V_getI (tat ok_X9_next_2 (i := 8) (q := 181) rfl rfl) fk_X9_135 rfl <|
    V_imul (tat ok_X9_next_2 (i := 9) (q := 182) rfl rfl) <|
    V_aload_n (tat ok_X9_next_2 (i := 10) (q := 183) rfl rfl) 0 rfl rfl <|
    V_aload_n (tat ok_X9_next_2 (i := 11) (q := 184) rfl rfl) 0 rfl rfl <|
    V_getI (tat ok_X9_next_2 (i := 12) (q := 187) rfl rfl) fk_X9_110 rfl <|
    oP_case (jx (P := oP P) kk (Eq.trans (ob e9) (Eq.trans (if_neg c10) (if_neg c11)))) (fun v12 e12 _ => V_cv1 (ct_X9_look I L (I 33 22)  e12) mo_X9_look (tat ok_X9_next_2 (i := 13) (q := 190) rfl rfl) ml_X9_113 rfl ⟨by decide, _, rfl, rfl⟩ ⟨(Nat.le_of_ble_eq_true rfl), (Nat.le_of_ble_eq_true rfl)⟩ ⟨(Nat.le_of_ble_eq_true rfl), (Nat.le_of_ble_eq_true rfl)⟩ (Nat.le_of_ble_eq_true rfl) <|
    V_iadd (tat ok_X9_next_2 (i := 14) (q := 191) rfl rfl) <|
    V_bipush (tat ok_X9_next_2 (i := 15) (q := 193) rfl rfl) bp_48 <|
    V_isub (tat ok_X9_next_2 (i := 16) (q := 194) rfl rfl) <|
    V_goto (tat ok_X9_next_2 (i := 17) (q := 197) rfl rfl) rfl <|
    V_X9_next_201_2  he hk (jx (P := oP P) kk (Eq.trans (ob e9) (Eq.trans (if_neg c10) (Eq.trans (if_neg c11) (ob e12)))))))))
def F_X9_next_236 (I : WI)  (s0 : Int32) : Option WI :=
  (F_X9_next_274 (F_X9_needs I s0 1))
theorem V_X9_next_236  {I : WI} {L : WL}  {s0 : Int32} {P : WI → Prop} {t : Tg} (hs0 : bz s0 = s0) (hr : ∀ v, P v → t = (none, ly0, v, L, R0)) (kk : oP P (F_X9_next_236 I s0)) : V (zM x_X9_next 2 0 0 t) 236 [(0, .ref 33)] [.int s0, .ref 33] ly0 I L R0 0 0 :=
  V_iconst (tat ok_X9_next_2 (i := 39) (q := 237) rfl rfl) ic_1 <|
    V_cv2v (ct_X9_needs I L s0 1 ) mo_X9_needs (tat ok_X9_next_3 (i := 0) (q := 240) rfl rfl) ml_X9_138 rfl ⟨by decide, _, rfl, rfl⟩ ⟨(Nat.le_of_ble_eq_true rfl), (Nat.le_of_ble_eq_true rfl)⟩ ⟨(Nat.le_of_ble_eq_true rfl), (Nat.le_of_ble_eq_true rfl)⟩ (Nat.le_of_ble_eq_true rfl) <|
    V_goto (tat ok_X9_next_3 (i := 1) (q := 243) rfl rfl) rfl <|
    V_X9_next_274  hr (jx (P := oP P) kk rfl)
