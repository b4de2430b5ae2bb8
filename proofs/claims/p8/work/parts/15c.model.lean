def F_X9_areActs_82_1 (I : WI) (a2 : Int32) (a1 : Int32) : Option Int32 :=
  some a1
theorem V_X9_areActs_82_1  {I : WI} {L : WL} {a2 : Int32} {a1 : Int32} {P : Int32 → Prop} {t : Tg} (hk : ∀ x : Int32, P x → V (zM x_X9_areActs 3 0 0 t) 4 [(0, .ref 33), (1, .int x), (2, .int (a2 + 1))] [] ly0 I L R0 0 0) (kk : oP P (F_X9_areActs_82_1 I a2 a1)) : V (zM x_X9_areActs 3 0 0 t) 82 [(0, .ref 33), (1, .int a1), (2, .int a2)] [] ly0 I L R0 0 0 :=
  V_iinc (v := (a2 + 1)) (lv' := [(2, .int (a2 + 1)), (0, .ref 33), (1, .int a1)]) (tat ok_X9_areActs_1 (i := 12) (q := 85) rfl rfl) 2 rfl (ia ic_1) (Nat.le_of_ble_eq_true rfl) rfl <|
    V_goto (tat ok_X9_areActs_1 (i := 13) (q := 88) rfl rfl) rfl <|
    V_pick [1, 2, 0] rfl (hk a1 (jx (P := oP P) kk rfl))
def F_X9_areActs_14_1 (I : WI) (a2 : Int32) (a1 : Int32) (a3 : Int32) : Option Int32 :=
  (lpp (fun x => (F_X9_areActs_14_2 I a2 (p1 x) (p2 x))) 4294967296 (a1, a3)).bind (fun q => (F_X9_areActs_82_1 I a2 q))
theorem V_X9_areActs_14_1  {I : WI} {L : WL} {a2 : Int32} {a1 : Int32} {a3 : Int32} {P : Int32 → Prop} {t : Tg} (hb3 : bz a3 = a3) (hk : ∀ x : Int32, P x → V (zM x_X9_areActs 3 0 0 t) 4 [(0, .ref 33), (1, .int x), (2, .int (a2 + 1))] [] ly0 I L R0 0 0) (kk : oP P (F_X9_areActs_14_1 I a2 a1 a3)) : V (zM x_X9_areActs 3 0 0 t) 14 [(0, .ref 33), (1, .int a1), (2, .int a2), (3, .int a3)] [] ly0 I L R0 0 0 :=
  V_lpp (fun x => (F_X9_areActs_14_2 I a2 (p1 x) (p2 x))) (fun x => V (zM x_X9_areActs 3 0 0 t) 14 [(0, .ref 33), (1, .int (p1 x)), (2, .int a2), (3, .int (p2 x))] [] ly0 I L R0 0 0) (fun x => oP P ((F_X9_areActs_82_1 I a2 x))) (s := (a1, a3)) (fun x e0 => V_X9_areActs_14_2 (P := Sum.elim (fun x => oP P ((F_X9_areActs_82_1 I a2 x))) (fun x => V (zM x_X9_areActs 3 0 0 t) 14 [(0, .ref 33), (1, .int (p1 x)), (2, .int a2), (3, .int (p2 x))] [] ly0 I L R0 0 0))  (fun x e => V_X9_areActs_82_1  hk e) (fun _ e => e) e0) (oP_bind (f := fun q => _) kk)
def F_X9_areActs_12_1 (I : WI) (a2 : Int32) (a1 : Int32) : Option Int32 :=
  (F_X9_areActs_14_1 I a2 a1 1)
theorem V_X9_areActs_12_1  {I : WI} {L : WL} {a2 : Int32} {a1 : Int32} {P : Int32 → Prop} {t : Tg} (hk : ∀ x : Int32, P x → V (zM x_X9_areActs 3 0 0 t) 4 [(0, .ref 33), (1, .int x), (2, .int (a2 + 1))] [] ly0 I L R0 0 0) (kk : oP P (F_X9_areActs_12_1 I a2 a1)) : V (zM x_X9_areActs 3 0 0 t) 12 [(0, .ref 33), (1, .int a1), (2, .int a2)] [] ly0 I L R0 0 0 :=
  V_iconst (tat ok_X9_areActs_0 (i := 8) (q := 13) rfl rfl) ic_1 <|
    V_istore_n (lv' := [(3, .int 1), (0, .ref 33), (1, .int a1), (2, .int a2)]) (tat ok_X9_areActs_0 (i := 9) (q := 14) rfl rfl) rfl (Nat.le_of_ble_eq_true rfl) rfl <|
    V_pick [1, 2, 3, 0] rfl (V_X9_areActs_14_1 rfl hk (jx (P := oP P) kk rfl))
def F_X9_areActs_88 (I : WI)  (a1 : Int32) : Option Int32 :=
  (if bz a1 = a1 then some a1 else none)
theorem V_X9_areActs_88  {I : WI} {L : WL}  {a1 : Int32} {P : Int32 → Prop} {t : Tg} (hr : ∀ v, P v → t = (some (.int v), ly0, I, L, R0)) (kk : oP P (F_X9_areActs_88 I a1)) : V (zM x_X9_areActs 3 0 0 t) 88 [(0, .ref 33), (1, .int a1)] [] ly0 I L R0 0 0 :=
  V_iload_n (tat ok_X9_areActs_1 (i := 14) (q := 89) rfl rfl) 1 rfl rfl <|
    (if c7 : bz a1 = a1 then V_iret (tat ok_X9_areActs_1 (i := 15) (q := 90) rfl rfl) _ rfl (bz_nf c7).1 (hr a1 (jx (P := oP P) kk (if_pos c7))) ⟨(Nat.le_of_ble_eq_true rfl), (Nat.le_of_ble_eq_true rfl)⟩ else ((jx (P := oP P) kk (if_neg c7))).elim)
def F_X9_areActs_4 (I : WI)  (a1 : Int32) (a2 : Int32) : Option Int32 :=
  (frp0 (fun i x => (F_X9_areActs_12_1 I i x)) (I 33 18) (fu a2 (I 33 18)) a2 a1).bind (fun q => (F_X9_areActs_88 I (p2 q)))
theorem V_X9_areActs_4  {I : WI} {L : WL}  {a1 : Int32} {a2 : Int32} {P : Int32 → Prop} {t : Tg} (hb1 : bz a1 = a1) (hb2 : bz a2 = a2) (hr : ∀ v, P v → t = (some (.int v), ly0, I, L, R0)) (kk : oP P (F_X9_areActs_4 I a1 a2)) : V (zM x_X9_areActs 3 0 0 t) 4 [(0, .ref 33), (1, .int a1), (2, .int a2)] [] ly0 I L R0 0 0 :=
  V_frp0 (fun i x => (F_X9_areActs_12_1 I i x)) (I 33 18) (fun i x => V (zM x_X9_areActs 3 0 0 t) 4 [(0, .ref 33), (1, .int x), (2, .int i)] [] ly0 I L R0 0 0) (fun i x => oP P ((F_X9_areActs_88 I x))) (c := a2) (s := a1) (fun i x kx kb => V_iload_n (tat ok_X9_areActs_0 (i := 4) (q := 5) rfl rfl) 2 rfl rfl <|
    V_aload_n (tat ok_X9_areActs_0 (i := 5) (q := 6) rfl rfl) 0 rfl rfl <|
    V_getI (tat ok_X9_areActs_0 (i := 6) (q := 9) rfl rfl) fk_X9_71 rfl <|
    V_icmp_ge (tat ok_X9_areActs_0 (i := 7) (q := 12) rfl rfl) rfl (fun c0 => V_pick [0, 1] rfl (V_X9_areActs_88  hr (kx c0))) (fun c0 => V_X9_areActs_12_1 (P := (fun x => (fun i x => V (zM x_X9_areActs 3 0 0 t) 4 [(0, .ref 33), (1, .int x), (2, .int i)] [] ly0 I L R0 0 0) (i + 1) x))  (fun _ e => e) (kb c0))) (oP_bind (f := fun q => _) kk)
def F_X9_areActs (I : WI) : Option Int32 :=
  (F_X9_areActs_4 I 1 0)
theorem V_X9_areActs  {I : WI} {L : WL}   {P : Int32 → Prop} {t : Tg} (hr : ∀ v, P v → t = (some (.int v), ly0, I, L, R0)) (kk : oP P (F_X9_areActs I)) : V (zM x_X9_areActs 3 0 0 t) 0 [(0, .ref 33)] [] ly0 I L R0 0 0 :=
  V_iconst (tat ok_X9_areActs_0 (i := 0) (q := 1) rfl rfl) ic_1 <|
    V_istore_n (lv' := [(1, .int 1), (0, .ref 33)]) (tat ok_X9_areActs_0 (i := 1) (q := 2) rfl rfl) rfl (Nat.le_of_ble_eq_true rfl) rfl <|
    V_iconst (tat ok_X9_areActs_0 (i := 2) (q := 3) rfl rfl) ic_0 <|
    V_istore_n (lv' := [(2, .int 0), (1, .int 1), (0, .ref 33)]) (tat ok_X9_areActs_0 (i := 3) (q := 4) rfl rfl) rfl (Nat.le_of_ble_eq_true rfl) rfl <|
    V_pick [2, 1, 0] rfl (V_X9_areActs_4 rfl rfl hr (jx (P := oP P) kk rfl))
theorem ct_X9_areActs  (I : WI) (L : WL)  {v : Int32} (h : (F_X9_areActs I) = some v) : Ct x_X9_areActs 3 [.ref 33] ly0 I L R0 0 0 (some (.int v), ly0, I, L, R0) :=
  Ct_of_V mo_X9_areActs.1 (Nat.le_of_ble_eq_true rfl) (V_X9_areActs (P := fun x => x = v)  (fun _ e => by rw [e]) (by rw [h]; exact rfl))
def F_X9_text_20_1 (I : WI) (L : WL)  (a1 : Int32) : Option ((Int32 × WI × WL) ⊕ (Int32 × WI × WL)) :=
  (if (I 33 26) = 0 then (if (I 33 24) = 0 then some (.inl (a1, I, L)) else (Option.bind (F_X9_readLine I L) (fun v4 => some (.inr ((a1 + 1), (p1 v4), (p2 v4)))))) else some (.inl (a1, I, L)))
theorem V_X9_text_20_1  {I : WI} {L : WL}  {a1 : Int32} {P : ((Int32 × WI × WL) ⊕ (Int32 × WI × WL)) → Prop} {t : Tg} (he : ∀ x : (Int32 × WI × WL), P (.inl x) → V (zM x_X9_text 7 0 0 t) 44 [(0, .ref 33), (1, .int (p1 x))] [] ly0 (p1 (p2 x)) (p2 (p2 x)) R0 0 0) (hk : ∀ x : (Int32 × WI × WL), P (.inr x) → V (zM x_X9_text 7 0 0 t) 20 [(0, .ref 33), (1, .int (p1 x))] [] ly0 (p1 (p2 x)) (p2 (p2 x)) R0 0 0) (kk : oP P (F_X9_text_20_1 I L a1)) : V (zM x_X9_text 7 0 0 t) 20 [(0, .ref 33), (1, .int a1)] [] ly0 I L R0 0 0 :=
  V_aload_n (tat ok_X9_text_0 (i := 12) (q := 21) rfl rfl) 0 rfl rfl <|
    V_getI (tat ok_X9_text_0 (i := 13) (q := 24) rfl rfl) fk_X9_101 rfl <|
    V_if_ne (tat ok_X9_text_0 (i := 14) (q := 27) rfl rfl) rfl (fun c2 => he (a1, I, L) (jx (P := oP P) kk (if_neg c2))) (fun c2 => V_aload_n (tat ok_X9_text_0 (i := 15) (q := 28) rfl rfl) 0 rfl rfl <|
    V_getI (tat ok_X9_text_0 (i := 16) (q := 31) rfl rfl) fk_X9_124 rfl <|
    V_if_eq (tat ok_X9_text_0 (i := 17) (q := 34) rfl rfl) rfl (fun c3 => he (a1, I, L) (jx (P := oP P) kk (Eq.trans (if_pos c2) (if_pos c3)))) (fun c3 => V_aload_n (tat ok_X9_text_0 (i := 18) (q := 35) rfl rfl) 0 rfl rfl <|
    oP_case (jx (P := oP P) kk (Eq.trans (if_pos c2) (if_neg c3))) (fun v4 e4 _ => V_cv0v (ct_X9_readLine I L   e4) mo_X9_readLine (tat ok_X9_text_0 (i := 19) (q := 38) rfl rfl) ml_X9_194 rfl ⟨by decide, _, rfl, rfl⟩ ⟨(Nat.le_of_ble_eq_true rfl), (Nat.le_of_ble_eq_true rfl)⟩ ⟨(Nat.le_of_ble_eq_true rfl), (Nat.le_of_ble_eq_true rfl)⟩ (Nat.le_of_ble_eq_true rfl) <|
    V_iinc (v := (a1 + 1)) (lv' := [(1, .int (a1 + 1)), (0, .ref 33)]) (tat ok_X9_text_0 (i := 20) (q := 41) rfl rfl) 1 rfl (ia ic_1) (Nat.le_of_ble_eq_true rfl) rfl <|
    V_goto (tat ok_X9_text_0 (i := 21) (q := 44) rfl rfl) rfl <|
    V_pick [1, 0] rfl (hk ((a1 + 1), (p1 v4), (p2 v4)) (jx (P := oP P) kk (Eq.trans (if_pos c2) (Eq.trans (if_neg c3) (ob e4))))))))
def F_X9_text_101 (I : WI) (L : WL)  (a1 : Int32) : Option (Int32 × WI × WL) :=
  (if ((u2 I 33 21 0) 33 26) ≤ 0 then (Option.bind (F_X9_keepDraft (u2 I 33 21 0) L) (fun v9 => some (a1, (p1 v9), (p2 v9)))) else some (((-10) - ((u2 I 33 21 0) 33 27)), (u2 I 33 21 0), L))
theorem V_X9_text_101  {I : WI} {L : WL}  {a1 : Int32} {P : (Int32 × WI × WL) → Prop} {t : Tg} (hr : ∀ v, P v → t = (some (.int (p1 v)), ly0, (p1 (p2 v)), (p2 (p2 v)), R0)) (kk : oP P (F_X9_text_101 I L a1)) : V (zM x_X9_text 7 0 0 t) 101 [(0, .ref 33), (1, .int a1)] [] ly0 I L R0 0 0 :=
  V_aload_n (tat ok_X9_text_1 (i := 9) (q := 102) rfl rfl) 0 rfl rfl <|
    V_iconst (tat ok_X9_text_1 (i := 10) (q := 103) rfl rfl) ic_0 <|
    V_putI (tat ok_X9_text_1 (i := 11) (q := 106) rfl rfl) fk_X9_92 rfl rfl <|
    V_aload_n (tat ok_X9_text_1 (i := 12) (q := 107) rfl rfl) 0 rfl rfl <|
    V_getI (tat ok_X9_text_1 (i := 13) (q := 110) rfl rfl) fk_X9_101 rfl <|
    V_if_le (tat ok_X9_text_1 (i := 14) (q := 113) rfl rfl) rfl (fun c8 => V_aload_n (tat ok_X9_text_1 (i := 20) (q := 122) rfl rfl) 0 rfl rfl <|
    oP_case (jx (P := oP P) kk (if_pos c8)) (fun v9 e9 _ => V_cv0v (ct_X9_keepDraft (u2 I 33 21 0) L   e9) mo_X9_keepDraft (tat ok_X9_text_1 (i := 21) (q := 125) rfl rfl) ml_X9_47 rfl ⟨by decide, _, rfl, rfl⟩ ⟨(Nat.le_of_ble_eq_true rfl), (Nat.le_of_ble_eq_true rfl)⟩ ⟨(Nat.le_of_ble_eq_true rfl), (Nat.le_of_ble_eq_true rfl)⟩ (Nat.le_of_ble_eq_true rfl) <|
    V_iload_n (tat ok_X9_text_1 (i := 22) (q := 126) rfl rfl) 1 rfl rfl <|
    V_iret (tat ok_X9_text_1 (i := 23) (q := 127) rfl rfl) _ rfl (nar_int _) (hr (a1, (p1 v9), (p2 v9)) (jx (P := oP P) kk (Eq.trans (if_pos c8) (ob e9)))) ⟨(Nat.le_of_ble_eq_true rfl), (Nat.le_of_ble_eq_true rfl)⟩)) (fun c8 => V_bipush (tat ok_X9_text_1 (i := 15) (q := 115) rfl rfl) bp_m10 <|
    V_aload_n (tat ok_X9_text_1 (i := 16) (q := 116) rfl rfl) 0 rfl rfl <|
    V_getI (tat ok_X9_text_1 (i := 17) (q := 119) rfl rfl) fk_X9_107 rfl <|
    V_isub (tat ok_X9_text_1 (i := 18) (q := 120) rfl rfl) <|
    V_iret (tat ok_X9_text_1 (i := 19) (q := 121) rfl rfl) _ rfl (nar_int _) (hr (((-10) - ((u2 I 33 21 0) 33 27)), (u2 I 33 21 0), L) (jx (P := oP P) kk (if_neg c8))) ⟨(Nat.le_of_ble_eq_true rfl), (Nat.le_of_ble_eq_true rfl)⟩)
def F_X9_text_86 (I : WI) (L : WL)  (a1 : Int32) (s0 : Int32) : Option (Int32 × WI × WL) :=
  (Option.bind (F_X9_areActs (F_X9_needs I s0 6)) (fun v7 => (F_X9_text_101 (F_X9_needs (F_X9_needs I s0 6) v7 7) L a1)))
theorem V_X9_text_86  {I : WI} {L : WL}  {a1 : Int32} {s0 : Int32} {P : (Int32 × WI × WL) → Prop} {t : Tg} (hs0 : bz s0 = s0) (hr : ∀ v, P v → t = (some (.int (p1 v)), ly0, (p1 (p2 v)), (p2 (p2 v)), R0)) (kk : oP P (F_X9_text_86 I L a1 s0)) : V (zM x_X9_text 7 0 0 t) 86 [(0, .ref 33), (1, .int a1)] [.int s0, .ref 33] ly0 I L R0 0 0 :=
  V_bipush (tat ok_X9_text_1 (i := 2) (q := 88) rfl rfl) bp_6 <|
    V_cv2v (ct_X9_needs I L s0 6 ) mo_X9_needs (tat ok_X9_text_1 (i := 3) (q := 91) rfl rfl) ml_X9_138 rfl ⟨by decide, _, rfl, rfl⟩ ⟨(Nat.le_of_ble_eq_true rfl), (Nat.le_of_ble_eq_true rfl)⟩ ⟨(Nat.le_of_ble_eq_true rfl), (Nat.le_of_ble_eq_true rfl)⟩ (Nat.le_of_ble_eq_true rfl) <|
    V_aload_n (tat ok_X9_text_1 (i := 4) (q := 92) rfl rfl) 0 rfl rfl <|
    V_aload_n (tat ok_X9_text_1 (i := 5) (q := 93) rfl rfl) 0 rfl rfl <|
    oP_case (jx (P := oP P) kk rfl) (fun v7 e7 _ => V_cv0 (ct_X9_areActs (F_X9_needs I s0 6) L   e7) mo_X9_areActs (tat ok_X9_text_1 (i := 6) (q := 96) rfl rfl) ml_X9_197 rfl ⟨by decide, _, rfl, rfl⟩ ⟨(Nat.le_of_ble_eq_true rfl), (Nat.le_of_ble_eq_true rfl)⟩ ⟨(Nat.le_of_ble_eq_true rfl), (Nat.le_of_ble_eq_true rfl)⟩ (Nat.le_of_ble_eq_true rfl) <|
    V_bipush (tat ok_X9_text_1 (i := 7) (q := 98) rfl rfl) bp_7 <|
    V_cv2v (ct_X9_needs (F_X9_needs I s0 6) L v7 7 ) mo_X9_needs (tat ok_X9_text_1 (i := 8) (q := 101) rfl rfl) ml_X9_138 rfl ⟨by decide, _, rfl, rfl⟩ ⟨(Nat.le_of_ble_eq_true rfl), (Nat.le_of_ble_eq_true rfl)⟩ ⟨(Nat.le_of_ble_eq_true rfl), (Nat.le_of_ble_eq_true rfl)⟩ (Nat.le_of_ble_eq_true rfl) <|
    V_X9_text_101  hr (jx (P := oP P) kk (ob e7)))
def F_X9_text_81 (I : WI) (L : WL)  (a1 : Int32) : Option (Int32 × WI × WL) :=
  (F_X9_text_86 I L a1 1)
theorem V_X9_text_81  {I : WI} {L : WL}  {a1 : Int32} {P : (Int32 × WI × WL) → Prop} {t : Tg} (hr : ∀ v, P v → t = (some (.int (p1 v)), ly0, (p1 (p2 v)), (p2 (p2 v)), R0)) (kk : oP P (F_X9_text_81 I L a1)) : V (zM x_X9_text 7 0 0 t) 81 [(0, .ref 33), (1, .int a1)] [.ref 33] ly0 I L R0 0 0 :=
  V_iconst (tat ok_X9_text_0 (i := 39) (q := 82) rfl rfl) ic_1 <|
    V_goto (tat ok_X9_text_1 (i := 0) (q := 85) rfl rfl) rfl <|
    V_X9_text_86 rfl hr (jx (P := oP P) kk rfl)
def F_X9_text_85 (I : WI) (L : WL)  (a1 : Int32) : Option (Int32 × WI × WL) :=
  (F_X9_text_86 I L a1 0)
theorem V_X9_text_85  {I : WI} {L : WL}  {a1 : Int32} {P : (Int32 × WI × WL) → Prop} {t : Tg} (hr : ∀ v, P v → t = (some (.int (p1 v)), ly0, (p1 (p2 v)), (p2 (p2 v)), R0)) (kk : oP P (F_X9_text_85 I L a1)) : V (zM x_X9_text 7 0 0 t) 85 [(0, .ref 33), (1, .int a1)] [.ref 33] ly0 I L R0 0 0 :=
  V_iconst (tat ok_X9_text_1 (i := 1) (q := 86) rfl rfl) ic_0 <|
    V_X9_text_86 rfl hr (jx (P := oP P) kk rfl)
def F_X9_text_44 (I : WI) (L : WL)  (a1 : Int32) : Option (Int32 × WI × WL) :=
  (if (I 33 26) = 0 then (if (bz (I 33 17)) = 0 then (F_X9_text_81 I L a1) else (if (I 33 13) = (I 33 10) then (if (I 33 14) = (I 33 11) then (F_X9_text_81 I L a1) else (F_X9_text_85 I L a1)) else (F_X9_text_85 I L a1))) else (F_X9_text_101 I L a1))
theorem V_X9_text_44  {I : WI} {L : WL}  {a1 : Int32} {P : (Int32 × WI × WL) → Prop} {t : Tg} (hr : ∀ v, P v → t = (some (.int (p1 v)), ly0, (p1 (p2 v)), (p2 (p2 v)), R0)) (kk : oP P (F_X9_text_44 I L a1)) : V (zM x_X9_text 7 0 0 t) 44 [(0, .ref 33), (1, .int a1)] [] ly0 I L R0 0 0 :=
  V_aload_n (tat ok_X9_text_0 (i := 22) (q := 45) rfl rfl) 0 rfl rfl <|
    V_getI (tat ok_X9_text_0 (i := 23) (q := 48) rfl rfl) fk_X9_101 rfl <|
    V_if_ne (tat ok_X9_text_0 (i := 24) (q := 51) rfl rfl) rfl (fun c5 => V_X9_text_101  hr (jx (P := oP P) kk (if_neg c5))) (fun c5 => V_aload_n (tat ok_X9_text_0 (i := 25) (q := 52) rfl rfl) 0 rfl rfl <|
    V_aload_n (tat ok_X9_text_0 (i := 26) (q := 53) rfl rfl) 0 rfl rfl <|
    V_getZ (tat ok_X9_text_0 (i := 27) (q := 56) rfl rfl) fk_X9_68 rfl <|
    V_if_eq (tat ok_X9_text_0 (i := 28) (q := 59) rfl rfl) rfl (fun c6 => V_X9_text_81  hr (jx (P := oP P) kk (Eq.trans (if_pos c5) (if_pos c6)))) (fun c6 => V_aload_n (tat ok_X9_text_0 (i := 29) (q := 60) rfl rfl) 0 rfl rfl <|
    V_getI (tat ok_X9_text_0 (i := 30) (q := 63) rfl rfl) fk_X9_183 rfl <|
    V_aload_n (tat ok_X9_text_0 (i := 31) (q := 64) rfl rfl) 0 rfl rfl <|
    V_getI (tat ok_X9_text_0 (i := 32) (q := 67) rfl rfl) fk_X9_50 rfl <|
    V_icmp_ne (tat ok_X9_text_0 (i := 33) (q := 70) rfl rfl) rfl (fun c10 => V_X9_text_85  hr (jx (P := oP P) kk (Eq.trans (if_pos c5) (Eq.trans (if_neg c6) (if_neg c10))))) (fun c10 => V_aload_n (tat ok_X9_text_0 (i := 34) (q := 71) rfl rfl) 0 rfl rfl <|
    V_getI (tat ok_X9_text_0 (i := 35) (q := 74) rfl rfl) fk_X9_186 rfl <|
    V_aload_n (tat ok_X9_text_0 (i := 36) (q := 75) rfl rfl) 0 rfl rfl <|
    V_getI (tat ok_X9_text_0 (i := 37) (q := 78) rfl rfl) fk_X9_54 rfl <|
    V_icmp_ne (tat ok_X9_text_0 (i := 38) (q := 81) rfl rfl) rfl (fun c11 => V_X9_text_85  hr (jx (P := oP P) kk (Eq.trans (if_pos c5) (Eq.trans (if_neg c6) (Eq.trans (if_pos c10) (if_neg c11)))))) (fun c11 => V_X9_text_81  hr (jx (P := oP P) kk (Eq.trans (if_pos c5) (Eq.trans (if_neg c6) (Eq.trans (if_pos c10) (if_pos c11)))))))))
def F_X9_text_20 (I : WI) (L : WL)  (a1 : Int32) : Option (Int32 × WI × WL) :=
  (lpp (fun x => (F_X9_text_20_1 (p1 (p2 x)) (p2 (p2 x)) (p1 x))) 4294967296 (a1, I, L)).bind (fun q => (F_X9_text_44 (p1 (p2 q)) (p2 (p2 q)) (p1 q)))
theorem V_X9_text_20  {I : WI} {L : WL}  {a1 : Int32} {P : (Int32 × WI × WL) → Prop} {t : Tg} (hb1 : bz a1 = a1) (hr : ∀ v, P v → t = (some (.int (p1 v)), ly0, (p1 (p2 v)), (p2 (p2 v)), R0)) (kk : oP P (F_X9_text_20 I L a1)) : V (zM x_X9_text 7 0 0 t) 20 [(0, .ref 33), (1, .int a1)] [] ly0 I L R0 0 0 :=
  V_lpp (fun x => (F_X9_text_20_1 (p1 (p2 x)) (p2 (p2 x)) (p1 x))) (fun x => V (zM x_X9_text 7 0 0 t) 20 [(0, .ref 33), (1, .int (p1 x))] [] ly0 (p1 (p2 x)) (p2 (p2 x)) R0 0 0) (fun x => oP P ((F_X9_text_44 (p1 (p2 x)) (p2 (p2 x)) (p1 x)))) (s := (a1, I, L)) (fun x e0 => V_X9_text_20_1 (P := Sum.elim (fun x => oP P ((F_X9_text_44 (p1 (p2 x)) (p2 (p2 x)) (p1 x)))) (fun x => V (zM x_X9_text 7 0 0 t) 20 [(0, .ref 33), (1, .int (p1 x))] [] ly0 (p1 (p2 x)) (p2 (p2 x)) R0 0 0))  (fun x e => V_X9_text_44  hr e) (fun _ e => e) e0) (oP_bind (f := fun q => _) kk)
def F_X9_text (I : WI) (L : WL) : Option (Int32 × WI × WL) :=
  (Option.bind (F_X9_next (p1 (F_X9_firstDraft (u2 (u2 I 33 26 0) 33 22 0) L))) (fun v1 => (F_X9_text_20 v1 (p2 (F_X9_firstDraft (u2 (u2 I 33 26 0) 33 22 0) L)) 0)))
theorem V_X9_text  {I : WI} {L : WL}   {P : (Int32 × WI × WL) → Prop} {t : Tg} (hr : ∀ v, P v → t = (some (.int (p1 v)), ly0, (p1 (p2 v)), (p2 (p2 v)), R0)) (kk : oP P (F_X9_text I L)) : V (zM x_X9_text 7 0 0 t) 0 [(0, .ref 33)] [] ly0 I L R0 0 0 :=
  V_iconst (tat ok_X9_text_0 (i := 0) (q := 1) rfl rfl) ic_0 <|
    V_istore_n (lv' := [(1, .int 0), (0, .ref 33)]) (tat ok_X9_text_0 (i := 1) (q := 2) rfl rfl) rfl (Nat.le_of_ble_eq_true rfl) rfl <|
    V_aload_n (tat ok_X9_text_0 (i := 2) (q := 3) rfl rfl) 1 rfl rfl <|
    V_iconst (tat ok_X9_text_0 (i := 3) (q := 4) rfl rfl) ic_0 <|
    V_putI (tat ok_X9_text_0 (i := 4) (q := 7) rfl rfl) fk_X9_101 rfl rfl <|
    V_aload_n (tat ok_X9_text_0 (i := 5) (q := 8) rfl rfl) 1 rfl rfl <|
    V_iconst (tat ok_X9_text_0 (i := 6) (q := 9) rfl rfl) ic_0 <|
    V_putI (tat ok_X9_text_0 (i := 7) (q := 12) rfl rfl) fk_X9_110 rfl rfl <|
    V_aload_n (tat ok_X9_text_0 (i := 8) (q := 13) rfl rfl) 1 rfl rfl <|
    V_cv0v (ct_X9_firstDraft (u2 (u2 I 33 26 0) 33 22 0) L  ) mo_X9_firstDraft (tat ok_X9_text_0 (i := 9) (q := 16) rfl rfl) ml_X9_44 rfl ⟨by decide, _, rfl, rfl⟩ ⟨(Nat.le_of_ble_eq_true rfl), (Nat.le_of_ble_eq_true rfl)⟩ ⟨(Nat.le_of_ble_eq_true rfl), (Nat.le_of_ble_eq_true rfl)⟩ (Nat.le_of_ble_eq_true rfl) <|
    V_aload_n (tat ok_X9_text_0 (i := 10) (q := 17) rfl rfl) 1 rfl rfl <|
    oP_case (jx (P := oP P) kk rfl) (fun v1 e1 _ => V_cv0v (ct_X9_next (p1 (F_X9_firstDraft (u2 (u2 I 33 26 0) 33 22 0) L)) (p2 (F_X9_firstDraft (u2 (u2 I 33 26 0) 33 22 0) L))   e1) mo_X9_next (tat ok_X9_text_0 (i := 11) (q := 20) rfl rfl) ml_X9_159 rfl ⟨by decide, _, rfl, rfl⟩ ⟨(Nat.le_of_ble_eq_true rfl), (Nat.le_of_ble_eq_true rfl)⟩ ⟨(Nat.le_of_ble_eq_true rfl), (Nat.le_of_ble_eq_true rfl)⟩ (Nat.le_of_ble_eq_true rfl) <|
    V_pick [1, 0] rfl (V_X9_text_20 rfl hr (jx (P := oP P) kk (ob e1))))
theorem ct_X9_text  (I : WI) (L : WL)  {v : (Int32 × WI × WL)} (h : (F_X9_text I L) = some v) : Ct x_X9_text 7 [.ref 33] ly0 I L R0 0 0 (some (.int (p1 v)), ly0, (p1 (p2 v)), (p2 (p2 v)), R0) :=
  Ct_of_V mo_X9_text.1 (Nat.le_of_ble_eq_true rfl) (V_X9_text (P := fun x => x = v)  (fun _ e => by rw [e]) (by rw [h]; exact rfl))
def F_X9_fault (I : WI) : Int32 :=
  (I 33 26)
theorem V_X9_fault  {I : WI} {L : WL}   {P : Int32 → Prop} {t : Tg} (hr : ∀ v, P v → t = (some (.int v), ly0, I, L, R0)) (kk : P (F_X9_fault I)) : V (zM x_X9_fault 1 0 0 t) 0 [(0, .ref 33)] [] ly0 I L R0 0 0 :=
  V_aload_n (tat ok_X9_fault_0 (i := 0) (q := 1) rfl rfl) 0 rfl rfl <|
    V_getI (tat ok_X9_fault_0 (i := 1) (q := 4) rfl rfl) fk_X9_101 rfl <|
    V_iret (tat ok_X9_fault_0 (i := 2) (q := 5) rfl rfl) _ rfl (nar_int _) (hr (I 33 26) (jx (P := P) kk rfl)) ⟨(Nat.le_of_ble_eq_true rfl), (Nat.le_of_ble_eq_true rfl)⟩
theorem ct_X9_fault  (I : WI) (L : WL)  : Ct x_X9_fault 1 [.ref 33] ly0 I L R0 0 0 (some (.int (F_X9_fault I)), ly0, I, L, R0) :=
  Ct_of_V mo_X9_fault.1 (Nat.le_of_ble_eq_true rfl) (V_X9_fault (P := fun x => x = (F_X9_fault I))  (fun _ e => by rw [e]) rfl)
def F_X9_rule (I : WI) (a1 : Int32) : Int32 :=
  (if a1 = 0 then (I 33 0) else (if a1 = 1 then (I 33 1) else (if a1 = 2 then (F_X9_flag (bz (I 33 4))) else (if a1 = 3 then (I 33 5) else (if a1 = 4 then (((I 33 0) + (I 33 1)) - 1) else (-1))))))
theorem V_X9_rule  {I : WI} {L : WL} {a1 : Int32}  {P : Int32 → Prop} {t : Tg} (hr : ∀ v, P v → t = (some (.int v), ly0, I, L, R0)) (kk : P (F_X9_rule I a1)) : V (zM x_X9_rule 2 0 0 t) 0 [(0, .ref 33), (1, .int a1)] [] ly0 I L R0 0 0 :=
  V_iload_n (tat ok_X9_rule_0 (i := 0) (q := 1) rfl rfl) 1 rfl rfl <|
    (if c1 : a1 = 0 then V_tswJ (tgt := 36) (off := 35) 0 (tat ok_X9_rule_0 (i := 1) (q := 36) rfl rfl) (swj c1) ⟨rfl, by decide⟩ rfl (V_aload_n (tat ok_X9_rule_0 (i := 2) (q := 37) rfl rfl) 0 rfl rfl <|
    V_getI (tat ok_X9_rule_0 (i := 3) (q := 40) rfl rfl) fk_X9_74 rfl <|
    V_iret (tat ok_X9_rule_0 (i := 4) (q := 41) rfl rfl) _ rfl (nar_int _) (hr (I 33 0) (jx (P := P) kk (if_pos c1))) ⟨(Nat.le_of_ble_eq_true rfl), (Nat.le_of_ble_eq_true rfl)⟩) else (if c2 : a1 = 1 then V_tswJ (tgt := 41) (off := 40) 1 (tat ok_X9_rule_0 (i := 1) (q := 36) rfl rfl) (swj c2) ⟨rfl, by decide⟩ rfl (V_aload_n (tat ok_X9_rule_0 (i := 5) (q := 42) rfl rfl) 0 rfl rfl <|
    V_getI (tat ok_X9_rule_0 (i := 6) (q := 45) rfl rfl) fk_X9_77 rfl <|
    V_iret (tat ok_X9_rule_0 (i := 7) (q := 46) rfl rfl) _ rfl (nar_int _) (hr (I 33 1) (jx (P := P) kk (Eq.trans (if_neg c1) (if_pos c2)))) ⟨(Nat.le_of_ble_eq_true rfl), (Nat.le_of_ble_eq_true rfl)⟩) else (if c3 : a1 = 2 then V_tswJ (tgt := 46) (off := 45) 2 (tat ok_X9_rule_0 (i := 1) (q := 36) rfl rfl) (swj c3) ⟨rfl, by decide⟩ rfl (V_aload_n (tat ok_X9_rule_0 (i := 8) (q := 47) rfl rfl) 0 rfl rfl <|
    V_getZ (tat ok_X9_rule_0 (i := 9) (q := 50) rfl rfl) fk_X9_86 rfl <|
    V_cs1 (ct_X9_flag I L (bz (I 33 4)) ) mo_X9_flag (tat ok_X9_rule_0 (i := 10) (q := 53) rfl rfl) ml_X9_200 ⟨(Nat.le_of_ble_eq_true rfl), (Nat.le_of_ble_eq_true rfl)⟩ ⟨(Nat.le_of_ble_eq_true rfl), (Nat.le_of_ble_eq_true rfl)⟩ (Nat.le_of_ble_eq_true rfl) <|
    V_iret (tat ok_X9_rule_0 (i := 11) (q := 54) rfl rfl) _ rfl (nar_int _) (hr (F_X9_flag (bz (I 33 4))) (jx (P := P) kk (Eq.trans (if_neg c1) (Eq.trans (if_neg c2) (if_pos c3))))) ⟨(Nat.le_of_ble_eq_true rfl), (Nat.le_of_ble_eq_true rfl)⟩) else (if c4 : a1 = 3 then V_tswJ (tgt := 54) (off := 53) 3 (tat ok_X9_rule_0 (i := 1) (q := 36) rfl rfl) (swj c4) ⟨rfl, by decide⟩ rfl (V_aload_n (tat ok_X9_rule_0 (i := 12) (q := 55) rfl rfl) 0 rfl rfl <|
    V_getI (tat ok_X9_rule_0 (i := 13) (q := 58) rfl rfl) fk_X9_89 rfl <|
    V_iret (tat ok_X9_rule_0 (i := 14) (q := 59) rfl rfl) _ rfl (nar_int _) (hr (I 33 5) (jx (P := P) kk (Eq.trans (if_neg c1) (Eq.trans (if_neg c2) (Eq.trans (if_neg c3) (if_pos c4)))))) ⟨(Nat.le_of_ble_eq_true rfl), (Nat.le_of_ble_eq_true rfl)⟩) else (if c5 : a1 = 4 then V_tswJ (tgt := 59) (off := 58) 4 (tat ok_X9_rule_0 (i := 1) (q := 36) rfl rfl) (swj c5) ⟨rfl, by decide⟩ rfl (V_aload_n (tat ok_X9_rule_0 (i := 15) (q := 60) rfl rfl) 0 rfl rfl <|
    V_getI (tat ok_X9_rule_0 (i := 16) (q := 63) rfl rfl) fk_X9_74 rfl <|
    V_aload_n (tat ok_X9_rule_0 (i := 17) (q := 64) rfl rfl) 0 rfl rfl <|
    V_getI (tat ok_X9_rule_0 (i := 18) (q := 67) rfl rfl) fk_X9_77 rfl <|
    V_iadd (tat ok_X9_rule_0 (i := 19) (q := 68) rfl rfl) <|
    V_iconst (tat ok_X9_rule_0 (i := 20) (q := 69) rfl rfl) ic_1 <|
    V_isub (tat ok_X9_rule_0 (i := 21) (q := 70) rfl rfl) <|
    V_iret (tat ok_X9_rule_0 (i := 22) (q := 71) rfl rfl) _ rfl (nar_int _) (hr (((I 33 0) + (I 33 1)) - 1) (jx (P := P) kk (Eq.trans (if_neg c1) (Eq.trans (if_neg c2) (Eq.trans (if_neg c3) (Eq.trans (if_neg c4) (if_pos c5))))))) ⟨(Nat.le_of_ble_eq_true rfl), (Nat.le_of_ble_eq_true rfl)⟩) else V_tswD (tgt := 71) (tat ok_X9_rule_0 (i := 1) (q := 36) rfl rfl) (sw5 c1 c2 c3 c4 c5) rfl (V_iconst (tat ok_X9_rule_0 (i := 23) (q := 72) rfl rfl) ic_m1 <|
    V_iret (tat ok_X9_rule_0 (i := 24) (q := 73) rfl rfl) _ rfl (nar_int _) (hr (-1) (jx (P := P) kk (Eq.trans (if_neg c1) (Eq.trans (if_neg c2) (Eq.trans (if_neg c3) (Eq.trans (if_neg c4) (if_neg c5))))))) ⟨(Nat.le_of_ble_eq_true rfl), (Nat.le_of_ble_eq_true rfl)⟩))))))
theorem ct_X9_rule  (I : WI) (L : WL) (a1 : Int32)  : Ct x_X9_rule 2 [.ref 33, .int a1] ly0 I L R0 0 0 (some (.int (F_X9_rule I a1)), ly0, I, L, R0) :=
  Ct_of_V mo_X9_rule.1 (Nat.le_of_ble_eq_true rfl) (V_X9_rule (P := fun x => x = (F_X9_rule I a1))  (fun _ e => by rw [e]) rfl)
def F_X9_day_54 (I : WI) (a1 : Int32) (a2 : Int32) (s0 : Int32) : Option Int32 :=
  some s0
theorem V_X9_day_54  {I : WI} {L : WL} {a1 : Int32} {a2 : Int32} {s0 : Int32} {P : Int32 → Prop} {t : Tg} (hr : ∀ v, P v → t = (some (.int v), ly0, I, L, R0)) (kk : oP P (F_X9_day_54 I a1 a2 s0)) : V (zM x_X9_day 2 0 0 t) 54 [(0, .ref 33), (1, .int a1), (2, .int a2)] [.int s0] ly0 I L R0 0 0 :=
  V_iret (tat ok_X9_day_0 (i := 36) (q := 55) rfl rfl) _ rfl (nar_int _) (hr s0 (jx (P := oP P) kk rfl)) ⟨(Nat.le_of_ble_eq_true rfl), (Nat.le_of_ble_eq_true rfl)⟩
def F_X9_day_38 (I : WI) (a1 : Int32) (a2 : Int32) : Option Int32 :=
  (F_X9_day_54 I a1 a2 (-1))
theorem V_X9_day_38  {I : WI} {L : WL} {a1 : Int32} {a2 : Int32}  {P : Int32 → Prop} {t : Tg} (hr : ∀ v, P v → t = (some (.int v), ly0, I, L, R0)) (kk : oP P (F_X9_day_38 I a1 a2)) : V (zM x_X9_day 2 0 0 t) 38 [(0, .ref 33), (1, .int a1), (2, .int a2)] [] ly0 I L R0 0 0 :=
  V_iconst (tat ok_X9_day_0 (i := 24) (q := 39) rfl rfl) ic_m1 <|
    V_goto (tat ok_X9_day_0 (i := 25) (q := 42) rfl rfl) rfl <|
    V_X9_day_54  hr (jx (P := oP P) kk rfl)
def F_X9_day (I : WI) (a1 : Int32) (a2 : Int32) : Option Int32 :=
  (if (F_X9_in (Int32.toInt64 a1) 0 (Int32.toInt64 ((I 33 5) - 1))) = 0 then (F_X9_day_38 I a1 a2) else (if (4 * a1) < 0 ∨ 48 ≤ Int32.toNatClampNeg (4 * a1) then none else (if (F_X9_in (Int32.toInt64 a2) (-1) (Int32.toInt64 ((I 34 (Int32.toNatClampNeg (4 * a1))) - 1))) = 0 then (F_X9_day_38 I a1 a2) else (if (((4 * a1) + a2) + 1) < 0 ∨ 48 ≤ Int32.toNatClampNeg (((4 * a1) + a2) + 1) then none else (F_X9_day_54 I a1 a2 (I 34 (Int32.toNatClampNeg (((4 * a1) + a2) + 1))))))))
theorem V_X9_day  {I : WI} {L : WL} {a1 : Int32} {a2 : Int32}  {P : Int32 → Prop} {t : Tg} (hr : ∀ v, P v → t = (some (.int v), ly0, I, L, R0)) (kk : oP P (F_X9_day I a1 a2)) : V (zM x_X9_day 2 0 0 t) 0 [(0, .ref 33), (1, .int a1), (2, .int a2)] [] ly0 I L R0 0 0 :=
  V_iload_n (tat ok_X9_day_0 (i := 0) (q := 1) rfl rfl) 1 rfl rfl <|
    V_i2l (tat ok_X9_day_0 (i := 1) (q := 2) rfl rfl) <|
    V_lconst (v := 0) (tat ok_X9_day_0 (i := 2) (q := 3) rfl rfl) rfl <|
    V_aload_n (tat ok_X9_day_0 (i := 3) (q := 4) rfl rfl) 0 rfl rfl <|
    V_getI (tat ok_X9_day_0 (i := 4) (q := 7) rfl rfl) fk_X9_89 rfl <|
    V_iconst (tat ok_X9_day_0 (i := 5) (q := 8) rfl rfl) ic_1 <|
    V_isub (tat ok_X9_day_0 (i := 6) (q := 9) rfl rfl) <|
    V_i2l (tat ok_X9_day_0 (i := 7) (q := 10) rfl rfl) <|
    V_cs3 (ct_X9_in I L (Int32.toInt64 a1) 0 (Int32.toInt64 ((I 33 5) - 1)) ) mo_X9_in (tat ok_X9_day_0 (i := 8) (q := 13) rfl rfl) ml_X9_97 ⟨(Nat.le_of_ble_eq_true rfl), (Nat.le_of_ble_eq_true rfl)⟩ ⟨(Nat.le_of_ble_eq_true rfl), (Nat.le_of_ble_eq_true rfl)⟩ (Nat.le_of_ble_eq_true rfl) <|
    V_if_eq (tat ok_X9_day_0 (i := 9) (q := 16) rfl rfl) rfl (fun c1 => V_X9_day_38  hr (jx (P := oP P) kk (if_pos c1))) (fun c1 => V_iload_n (tat ok_X9_day_0 (i := 10) (q := 17) rfl rfl) 2 rfl rfl <|
    V_i2l (tat ok_X9_day_0 (i := 11) (q := 18) rfl rfl) <|
    V_ldc2 (tat ok_X9_day_0 (i := 12) (q := 21) rfl rfl) (gw_in kl_X9_204 rfl) <|
    V_aload_n (tat ok_X9_day_0 (i := 13) (q := 22) rfl rfl) 0 rfl rfl <|
    V_getR (tat ok_X9_day_0 (i := 14) (q := 25) rfl rfl) fk_X9_7 rfl rfl <|
    V_iconst (tat ok_X9_day_0 (i := 15) (q := 26) rfl rfl) ic_4 <|
    V_iload_n (tat ok_X9_day_0 (i := 16) (q := 27) rfl rfl) 1 rfl rfl <|
    V_imul (tat ok_X9_day_0 (i := 17) (q := 28) rfl rfl) <|
    (if c2 : (4 * a1) < 0 ∨ 48 ≤ Int32.toNatClampNeg (4 * a1) then ((jx (P := oP P) kk (Eq.trans (if_neg c1) (if_pos c2)))).elim else V_iald (tat ok_X9_day_0 (i := 18) (q := 29) rfl rfl) rfl c2 <|
    V_iconst (tat ok_X9_day_0 (i := 19) (q := 30) rfl rfl) ic_1 <|
    V_isub (tat ok_X9_day_0 (i := 20) (q := 31) rfl rfl) <|
    V_i2l (tat ok_X9_day_0 (i := 21) (q := 32) rfl rfl) <|
    V_cs3 (ct_X9_in I L (Int32.toInt64 a2) (-1) (Int32.toInt64 ((I 34 (Int32.toNatClampNeg (4 * a1))) - 1)) ) mo_X9_in (tat ok_X9_day_0 (i := 22) (q := 35) rfl rfl) ml_X9_97 ⟨(Nat.le_of_ble_eq_true rfl), (Nat.le_of_ble_eq_true rfl)⟩ ⟨(Nat.le_of_ble_eq_true rfl), (Nat.le_of_ble_eq_true rfl)⟩ (Nat.le_of_ble_eq_true rfl) <|
    V_if_ne (tat ok_X9_day_0 (i := 23) (q := 38) rfl rfl) rfl (fun c3 => V_aload_n (tat ok_X9_day_0 (i := 26) (q := 43) rfl rfl) 0 rfl rfl <|
    V_getR (tat ok_X9_day_0 (i := 27) (q := 46) rfl rfl) fk_X9_7 rfl rfl <|
    V_iconst (tat ok_X9_day_0 (i := 28) (q := 47) rfl rfl) ic_4 <|
    V_iload_n (tat ok_X9_day_0 (i := 29) (q := 48) rfl rfl) 1 rfl rfl <|
    V_imul (tat ok_X9_day_0 (i := 30) (q := 49) rfl rfl) <|
    V_iload_n (tat ok_X9_day_0 (i := 31) (q := 50) rfl rfl) 2 rfl rfl <|
    V_iadd (tat ok_X9_day_0 (i := 32) (q := 51) rfl rfl) <|
    V_iconst (tat ok_X9_day_0 (i := 33) (q := 52) rfl rfl) ic_1 <|
    V_iadd (tat ok_X9_day_0 (i := 34) (q := 53) rfl rfl) <|
    (if c4 : (((4 * a1) + a2) + 1) < 0 ∨ 48 ≤ Int32.toNatClampNeg (((4 * a1) + a2) + 1) then ((jx (P := oP P) kk (Eq.trans (if_neg c1) (Eq.trans (if_neg c2) (Eq.trans (if_neg c3) (if_pos c4)))))).elim else V_iald (tat ok_X9_day_0 (i := 35) (q := 54) rfl rfl) rfl c4 <|
    V_X9_day_54  hr (jx (P := oP P) kk (Eq.trans (if_neg c1) (Eq.trans (if_neg c2) (Eq.trans (if_neg c3) (if_neg c4))))))) (fun c3 => V_X9_day_38  hr (jx (P := oP P) kk (Eq.trans (if_neg c1) (Eq.trans (if_neg c2) (if_pos c3)))))))
theorem ct_X9_day  (I : WI) (L : WL) (a1 : Int32) (a2 : Int32)  {v : Int32} (h : (F_X9_day I a1 a2) = some v) : Ct x_X9_day 2 [.ref 33, .int a1, .int a2] ly0 I L R0 0 0 (some (.int v), ly0, I, L, R0) :=
  Ct_of_V mo_X9_day.1 (Nat.le_of_ble_eq_true rfl) (V_X9_day (P := fun x => x = v)  (fun _ e => by rw [e]) (by rw [h]; exact rfl))
def F_X9_cloth_31 (I : WI) (L : WL) (a1 : Int32) (s0 : Int64) : Int64 :=
  s0
theorem V_X9_cloth_31  {I : WI} {L : WL} {a1 : Int32} {s0 : Int64} {P : Int64 → Prop} {t : Tg} (hr : ∀ v, P v → t = (some (.long v), ly0, I, L, R0)) (kk : P (F_X9_cloth_31 I L a1 s0)) : V (zM x_X9_cloth 1 0 0 t) 31 [(0, .ref 33), (1, .int a1)] [.long s0] ly0 I L R0 0 0 :=
  V_lret (tat ok_X9_cloth_0 (i := 15) (q := 32) rfl rfl) rfl (hr s0 (jx (P := P) kk rfl)) ⟨(Nat.le_of_ble_eq_true rfl), (Nat.le_of_ble_eq_true rfl)⟩
def F_X9_cloth_30 (I : WI) (L : WL) (a1 : Int32) : Int64 :=
  (F_X9_cloth_31 I L a1 0)
theorem V_X9_cloth_30  {I : WI} {L : WL} {a1 : Int32}  {P : Int64 → Prop} {t : Tg} (hr : ∀ v, P v → t = (some (.long v), ly0, I, L, R0)) (kk : P (F_X9_cloth_30 I L a1)) : V (zM x_X9_cloth 1 0 0 t) 30 [(0, .ref 33), (1, .int a1)] [] ly0 I L R0 0 0 :=
  V_lconst (v := 0) (tat ok_X9_cloth_0 (i := 14) (q := 31) rfl rfl) rfl <|
    V_X9_cloth_31  hr (jx (P := P) kk rfl)
def F_X9_cloth (I : WI) (L : WL) (a1 : Int32) : Int64 :=
  (if a1 = 0 then (F_X9_cloth_31 I L a1 (L 33 2)) else (if a1 = 1 then (if (bz (I 33 4)) = 0 then (F_X9_cloth_30 I L a1) else (F_X9_cloth_31 I L a1 (L 33 3))) else (F_X9_cloth_30 I L a1)))
theorem V_X9_cloth  {I : WI} {L : WL} {a1 : Int32}  {P : Int64 → Prop} {t : Tg} (hr : ∀ v, P v → t = (some (.long v), ly0, I, L, R0)) (kk : P (F_X9_cloth I L a1)) : V (zM x_X9_cloth 1 0 0 t) 0 [(0, .ref 33), (1, .int a1)] [] ly0 I L R0 0 0 :=
  V_iload_n (tat ok_X9_cloth_0 (i := 0) (q := 1) rfl rfl) 1 rfl rfl <|
    V_if_ne (tat ok_X9_cloth_0 (i := 1) (q := 4) rfl rfl) rfl (fun c1 => V_iload_n (tat ok_X9_cloth_0 (i := 5) (q := 12) rfl rfl) 1 rfl rfl <|
    V_iconst (tat ok_X9_cloth_0 (i := 6) (q := 13) rfl rfl) ic_1 <|
    V_icmp_ne (tat ok_X9_cloth_0 (i := 7) (q := 16) rfl rfl) rfl (fun c2 => V_X9_cloth_30  hr (jx (P := P) kk (Eq.trans (if_neg c1) (if_neg c2)))) (fun c2 => V_aload_n (tat ok_X9_cloth_0 (i := 8) (q := 17) rfl rfl) 0 rfl rfl <|
    V_getZ (tat ok_X9_cloth_0 (i := 9) (q := 20) rfl rfl) fk_X9_86 rfl <|
    V_if_eq (tat ok_X9_cloth_0 (i := 10) (q := 23) rfl rfl) rfl (fun c3 => V_X9_cloth_30  hr (jx (P := P) kk (Eq.trans (if_neg c1) (Eq.trans (if_pos c2) (if_pos c3))))) (fun c3 => V_aload_n (tat ok_X9_cloth_0 (i := 11) (q := 24) rfl rfl) 0 rfl rfl <|
    V_getL (tat ok_X9_cloth_0 (i := 12) (q := 27) rfl rfl) fk_X9_83 rfl <|
    V_goto (tat ok_X9_cloth_0 (i := 13) (q := 30) rfl rfl) rfl <|
    V_X9_cloth_31  hr (jx (P := P) kk (Eq.trans (if_neg c1) (Eq.trans (if_pos c2) (if_neg c3))))))) (fun c1 => V_aload_n (tat ok_X9_cloth_0 (i := 2) (q := 5) rfl rfl) 0 rfl rfl <|
    V_getL (tat ok_X9_cloth_0 (i := 3) (q := 8) rfl rfl) fk_X9_80 rfl <|
    V_goto (tat ok_X9_cloth_0 (i := 4) (q := 11) rfl rfl) rfl <|
    V_X9_cloth_31  hr (jx (P := P) kk (if_pos c1)))
theorem ct_X9_cloth  (I : WI) (L : WL) (a1 : Int32)  : Ct x_X9_cloth 1 [.ref 33, .int a1] ly0 I L R0 0 0 (some (.long (F_X9_cloth I L a1)), ly0, I, L, R0) :=
  Ct_of_V mo_X9_cloth.1 (Nat.le_of_ble_eq_true rfl) (V_X9_cloth (P := fun x => x = (F_X9_cloth I L a1))  (fun _ e => by rw [e]) rfl)
def F_X9_isSquare_37 (I : WI) (a1 : Int32) (a2 : Int32) (s0 : Int32) : Int32 :=
  s0
theorem V_X9_isSquare_37  {I : WI} {L : WL} {a1 : Int32} {a2 : Int32} {s0 : Int32} {P : Int32 → Prop} {t : Tg} (hs0 : bz s0 = s0) (hr : ∀ v, P v → t = (some (.int v), ly0, I, L, R0)) (kk : P (F_X9_isSquare_37 I a1 a2 s0)) : V (zM x_X9_isSquare 2 0 0 t) 37 [(0, .ref 33), (1, .int a1), (2, .int a2)] [.int s0] ly0 I L R0 0 0 :=
  V_iret (tat ok_X9_isSquare_0 (i := 23) (q := 38) rfl rfl) _ rfl (bz_nf hs0).1 (hr s0 (jx (P := P) kk rfl)) ⟨(Nat.le_of_ble_eq_true rfl), (Nat.le_of_ble_eq_true rfl)⟩
def F_X9_isSquare_36 (I : WI) (a1 : Int32) (a2 : Int32) : Int32 :=
  (F_X9_isSquare_37 I a1 a2 0)
theorem V_X9_isSquare_36  {I : WI} {L : WL} {a1 : Int32} {a2 : Int32}  {P : Int32 → Prop} {t : Tg} (hr : ∀ v, P v → t = (some (.int v), ly0, I, L, R0)) (kk : P (F_X9_isSquare_36 I a1 a2)) : V (zM x_X9_isSquare 2 0 0 t) 36 [(0, .ref 33), (1, .int a1), (2, .int a2)] [] ly0 I L R0 0 0 :=
  V_iconst (tat ok_X9_isSquare_0 (i := 22) (q := 37) rfl rfl) ic_0 <|
    V_X9_isSquare_37 rfl hr (jx (P := P) kk rfl)
def F_X9_isSquare (I : WI) (a1 : Int32) (a2 : Int32) : Int32 :=
  (if (F_X9_in (Int32.toInt64 a1) 0 (Int32.toInt64 ((I 33 0) - 1))) = 0 then (F_X9_isSquare_36 I a1 a2) else (if (F_X9_in (Int32.toInt64 a2) 0 (Int32.toInt64 ((I 33 1) - 1))) = 0 then (F_X9_isSquare_36 I a1 a2) else (F_X9_isSquare_37 I a1 a2 1)))
theorem V_X9_isSquare  {I : WI} {L : WL} {a1 : Int32} {a2 : Int32}  {P : Int32 → Prop} {t : Tg} (hr : ∀ v, P v → t = (some (.int v), ly0, I, L, R0)) (kk : P (F_X9_isSquare I a1 a2)) : V (zM x_X9_isSquare 2 0 0 t) 0 [(0, .ref 33), (1, .int a1), (2, .int a2)] [] ly0 I L R0 0 0 :=
  V_iload_n (tat ok_X9_isSquare_0 (i := 0) (q := 1) rfl rfl) 1 rfl rfl <|
    V_i2l (tat ok_X9_isSquare_0 (i := 1) (q := 2) rfl rfl) <|
    V_lconst (v := 0) (tat ok_X9_isSquare_0 (i := 2) (q := 3) rfl rfl) rfl <|
    V_aload_n (tat ok_X9_isSquare_0 (i := 3) (q := 4) rfl rfl) 0 rfl rfl <|
    V_getI (tat ok_X9_isSquare_0 (i := 4) (q := 7) rfl rfl) fk_X9_74 rfl <|
    V_iconst (tat ok_X9_isSquare_0 (i := 5) (q := 8) rfl rfl) ic_1 <|
    V_isub (tat ok_X9_isSquare_0 (i := 6) (q := 9) rfl rfl) <|
    V_i2l (tat ok_X9_isSquare_0 (i := 7) (q := 10) rfl rfl) <|
    V_cs3 (ct_X9_in I L (Int32.toInt64 a1) 0 (Int32.toInt64 ((I 33 0) - 1)) ) mo_X9_in (tat ok_X9_isSquare_0 (i := 8) (q := 13) rfl rfl) ml_X9_97 ⟨(Nat.le_of_ble_eq_true rfl), (Nat.le_of_ble_eq_true rfl)⟩ ⟨(Nat.le_of_ble_eq_true rfl), (Nat.le_of_ble_eq_true rfl)⟩ (Nat.le_of_ble_eq_true rfl) <|
    V_if_eq (tat ok_X9_isSquare_0 (i := 9) (q := 16) rfl rfl) rfl (fun c1 => V_X9_isSquare_36  hr (jx (P := P) kk (if_pos c1))) (fun c1 => V_iload_n (tat ok_X9_isSquare_0 (i := 10) (q := 17) rfl rfl) 2 rfl rfl <|
    V_i2l (tat ok_X9_isSquare_0 (i := 11) (q := 18) rfl rfl) <|
    V_lconst (v := 0) (tat ok_X9_isSquare_0 (i := 12) (q := 19) rfl rfl) rfl <|
    V_aload_n (tat ok_X9_isSquare_0 (i := 13) (q := 20) rfl rfl) 0 rfl rfl <|
    V_getI (tat ok_X9_isSquare_0 (i := 14) (q := 23) rfl rfl) fk_X9_77 rfl <|
    V_iconst (tat ok_X9_isSquare_0 (i := 15) (q := 24) rfl rfl) ic_1 <|
    V_isub (tat ok_X9_isSquare_0 (i := 16) (q := 25) rfl rfl) <|
    V_i2l (tat ok_X9_isSquare_0 (i := 17) (q := 26) rfl rfl) <|
    V_cs3 (ct_X9_in I L (Int32.toInt64 a2) 0 (Int32.toInt64 ((I 33 1) - 1)) ) mo_X9_in (tat ok_X9_isSquare_0 (i := 18) (q := 29) rfl rfl) ml_X9_97 ⟨(Nat.le_of_ble_eq_true rfl), (Nat.le_of_ble_eq_true rfl)⟩ ⟨(Nat.le_of_ble_eq_true rfl), (Nat.le_of_ble_eq_true rfl)⟩ (Nat.le_of_ble_eq_true rfl) <|
    V_if_eq (tat ok_X9_isSquare_0 (i := 19) (q := 32) rfl rfl) rfl (fun c2 => V_X9_isSquare_36  hr (jx (P := P) kk (Eq.trans (if_neg c1) (if_pos c2)))) (fun c2 => V_iconst (tat ok_X9_isSquare_0 (i := 20) (q := 33) rfl rfl) ic_1 <|
    V_goto (tat ok_X9_isSquare_0 (i := 21) (q := 36) rfl rfl) rfl <|
    V_X9_isSquare_37 rfl hr (jx (P := P) kk (Eq.trans (if_neg c1) (if_neg c2)))))
theorem ct_X9_isSquare  (I : WI) (L : WL) (a1 : Int32) (a2 : Int32)  : Ct x_X9_isSquare 2 [.ref 33, .int a1, .int a2] ly0 I L R0 0 0 (some (.int (F_X9_isSquare I a1 a2)), ly0, I, L, R0) :=
  Ct_of_V mo_X9_isSquare.1 (Nat.le_of_ble_eq_true rfl) (V_X9_isSquare (P := fun x => x = (F_X9_isSquare I a1 a2))  (fun _ e => by rw [e]) rfl)
def F_X9_isDark (a0 : Int64) (a2 : Int32) (a3 : Int32) : Int32 :=
  (Int64.toInt32 ((lsr a0 ((8 * a2) + a3)) &&& 1))
theorem V_X9_isDark  {I : WI} {L : WL} {a0 : Int64} {a2 : Int32} {a3 : Int32}  {P : Int32 → Prop} {t : Tg} (hr : ∀ v, P v → t = (some (.int v), ly0, I, L, R0)) (kk : P (F_X9_isDark a0 a2 a3)) : V (zM x_X9_isDark 1 0 0 t) 0 [(0, .long a0), (2, .int a2), (3, .int a3)] [] ly0 I L R0 0 0 :=
  V_lload_n (tat ok_X9_isDark_0 (i := 0) (q := 1) rfl rfl) 0 rfl rfl <|
    V_bipush (tat ok_X9_isDark_0 (i := 1) (q := 3) rfl rfl) bp_8 <|
    V_iload_n (tat ok_X9_isDark_0 (i := 2) (q := 4) rfl rfl) 1 rfl rfl <|
    V_imul (tat ok_X9_isDark_0 (i := 3) (q := 5) rfl rfl) <|
    V_iload_n (tat ok_X9_isDark_0 (i := 4) (q := 6) rfl rfl) 2 rfl rfl <|
    V_iadd (tat ok_X9_isDark_0 (i := 5) (q := 7) rfl rfl) <|
    V_lshr (tat ok_X9_isDark_0 (i := 6) (q := 8) rfl rfl) <|
    V_lconst (v := 1) (tat ok_X9_isDark_0 (i := 7) (q := 9) rfl rfl) rfl <|
    V_land (tat ok_X9_isDark_0 (i := 8) (q := 10) rfl rfl) <|
    V_l2i (tat ok_X9_isDark_0 (i := 9) (q := 11) rfl rfl) <|
    V_iret (tat ok_X9_isDark_0 (i := 10) (q := 12) rfl rfl) _ rfl (nar_int _) (hr (Int64.toInt32 ((lsr a0 ((8 * a2) + a3)) &&& 1)) (jx (P := P) kk rfl)) ⟨(Nat.le_of_ble_eq_true rfl), (Nat.le_of_ble_eq_true rfl)⟩
theorem ct_X9_isDark  (I : WI) (L : WL) (a0 : Int64) (a2 : Int32) (a3 : Int32)  : Ct x_X9_isDark 1 [.long a0, .int a2, .int a3] ly0 I L R0 0 0 (some (.int (F_X9_isDark a0 a2 a3)), ly0, I, L, R0) :=
  Ct_of_V mo_X9_isDark.1 (Nat.le_of_ble_eq_true rfl) (V_X9_isDark (P := fun x => x = (F_X9_isDark a0 a2 a3))  (fun _ e => by rw [e]) rfl)
def F_X9_square_22 (I : WI) (L : WL) (a1 : Int32) (a2 : Int32) (s0 : Int32) : Int32 :=
  s0
theorem V_X9_square_22  {I : WI} {L : WL} {a1 : Int32} {a2 : Int32} {s0 : Int32} {P : Int32 → Prop} {t : Tg} (hr : ∀ v, P v → t = (some (.int v), ly0, I, L, R0)) (kk : P (F_X9_square_22 I L a1 a2 s0)) : V (zM x_X9_square 3 0 0 t) 22 [(0, .ref 33), (1, .int a1), (2, .int a2)] [.int s0] ly0 I L R0 0 0 :=
  V_iret (tat ok_X9_square_0 (i := 12) (q := 23) rfl rfl) _ rfl (nar_int _) (hr s0 (jx (P := P) kk rfl)) ⟨(Nat.le_of_ble_eq_true rfl), (Nat.le_of_ble_eq_true rfl)⟩
def F_X9_square (I : WI) (L : WL) (a1 : Int32) (a2 : Int32) : Int32 :=
  (if (F_X9_isSquare I a1 a2) = 0 then (F_X9_square_22 I L a1 a2 (-1)) else (F_X9_square_22 I L a1 a2 (F_X9_isDark (L 33 2) a1 a2)))
theorem V_X9_square  {I : WI} {L : WL} {a1 : Int32} {a2 : Int32}  {P : Int32 → Prop} {t : Tg} (hr : ∀ v, P v → t = (some (.int v), ly0, I, L, R0)) (kk : P (F_X9_square I L a1 a2)) : V (zM x_X9_square 3 0 0 t) 0 [(0, .ref 33), (1, .int a1), (2, .int a2)] [] ly0 I L R0 0 0 :=
  V_aload_n (tat ok_X9_square_0 (i := 0) (q := 1) rfl rfl) 0 rfl rfl <|
    V_iload_n (tat ok_X9_square_0 (i := 1) (q := 2) rfl rfl) 1 rfl rfl <|
    V_iload_n (tat ok_X9_square_0 (i := 2) (q := 3) rfl rfl) 2 rfl rfl <|
    V_cv2 (ct_X9_isSquare I L a1 a2 ) mo_X9_isSquare (tat ok_X9_square_0 (i := 3) (q := 6) rfl rfl) ml_X9_206 rfl ⟨by decide, _, rfl, rfl⟩ ⟨(Nat.le_of_ble_eq_true rfl), (Nat.le_of_ble_eq_true rfl)⟩ ⟨(Nat.le_of_ble_eq_true rfl), (Nat.le_of_ble_eq_true rfl)⟩ (Nat.le_of_ble_eq_true rfl) <|
    V_if_eq (tat ok_X9_square_0 (i := 4) (q := 9) rfl rfl) rfl (fun c1 => V_iconst (tat ok_X9_square_0 (i := 11) (q := 22) rfl rfl) ic_m1 <|
    V_X9_square_22  hr (jx (P := P) kk (if_pos c1))) (fun c1 => V_aload_n (tat ok_X9_square_0 (i := 5) (q := 10) rfl rfl) 0 rfl rfl <|
    V_getL (tat ok_X9_square_0 (i := 6) (q := 13) rfl rfl) fk_X9_80 rfl <|
    V_iload_n (tat ok_X9_square_0 (i := 7) (q := 14) rfl rfl) 1 rfl rfl <|
    V_iload_n (tat ok_X9_square_0 (i := 8) (q := 15) rfl rfl) 2 rfl rfl <|
    V_cs3 (ct_X9_isDark I L (L 33 2) a1 a2 ) mo_X9_isDark (tat ok_X9_square_0 (i := 9) (q := 18) rfl rfl) ml_X9_210 ⟨(Nat.le_of_ble_eq_true rfl), (Nat.le_of_ble_eq_true rfl)⟩ ⟨(Nat.le_of_ble_eq_true rfl), (Nat.le_of_ble_eq_true rfl)⟩ (Nat.le_of_ble_eq_true rfl) <|
    V_goto (tat ok_X9_square_0 (i := 10) (q := 21) rfl rfl) rfl <|
    V_X9_square_22  hr (jx (P := P) kk (if_neg c1)))
theorem ct_X9_square  (I : WI) (L : WL) (a1 : Int32) (a2 : Int32)  : Ct x_X9_square 3 [.ref 33, .int a1, .int a2] ly0 I L R0 0 0 (some (.int (F_X9_square I L a1 a2)), ly0, I, L, R0) :=
  Ct_of_V mo_X9_square.1 (Nat.le_of_ble_eq_true rfl) (V_X9_square (P := fun x => x = (F_X9_square I L a1 a2))  (fun _ e => by rw [e]) rfl)
def F_X9_paint_54 (I : WI) (L : WL) (a1 : Int32) (a2 : Int32) (a3 : Int32) (a4 : Int32) (s0 : Int64) : (Int32 × WL) :=
  (a4, (u2 L 33 2 s0))
theorem V_X9_paint_54  {I : WI} {L : WL} {a1 : Int32} {a2 : Int32} {a3 : Int32} {a4 : Int32} {s0 : Int64} {P : (Int32 × WL) → Prop} {t : Tg} (hr : ∀ v, P v → t = (some (.int (p1 v)), ly0, I, (p2 v), R0)) (kk : P (F_X9_paint_54 I L a1 a2 a3 a4 s0)) : V (zM x_X9_paint 3 0 0 t) 54 [(0, .ref 33), (1, .int a1), (2, .int a2), (3, .int a3), (4, .int a4)] [.long s0, .ref 33] ly0 I L R0 0 0 :=
  V_putL (tat ok_X9_paint_0 (i := 31) (q := 57) rfl rfl) fk_X9_80 rfl rfl <|
    V_iload (tat ok_X9_paint_0 (i := 32) (q := 59) rfl rfl) 4 rfl <|
    V_iret (tat ok_X9_paint_0 (i := 33) (q := 60) rfl rfl) _ rfl (nar_int _) (hr (a4, (u2 L 33 2 s0)) (jx (P := P) kk rfl)) ⟨(Nat.le_of_ble_eq_true rfl), (Nat.le_of_ble_eq_true rfl)⟩
def F_X9_paint (I : WI) (L : WL) (a1 : Int32) (a2 : Int32) (a3 : Int32) : (Int32 × WL) :=
  (if (F_X9_isSquare I a1 a2) = 0 then ((-1), L) else (if a3 = 0 then (F_X9_paint_54 I L a1 a2 a3 (F_X9_isDark (L 33 2) a1 a2) ((L 33 2) &&& ((F_X9_bitOf a1 a2) ^^^ (-1)))) else (F_X9_paint_54 I L a1 a2 a3 (F_X9_isDark (L 33 2) a1 a2) ((L 33 2) ||| (F_X9_bitOf a1 a2)))))
theorem V_X9_paint  {I : WI} {L : WL} {a1 : Int32} {a2 : Int32} {a3 : Int32}  {P : (Int32 × WL) → Prop} {t : Tg} (hr : ∀ v, P v → t = (some (.int (p1 v)), ly0, I, (p2 v), R0)) (kk : P (F_X9_paint I L a1 a2 a3)) : V (zM x_X9_paint 3 0 0 t) 0 [(0, .ref 33), (1, .int a1), (2, .int a2), (3, .int a3)] [] ly0 I L R0 0 0 :=
  V_aload_n (tat ok_X9_paint_0 (i := 0) (q := 1) rfl rfl) 0 rfl rfl <|
    V_iload_n (tat ok_X9_paint_0 (i := 1) (q := 2) rfl rfl) 1 rfl rfl <|
    V_iload_n (tat ok_X9_paint_0 (i := 2) (q := 3) rfl rfl) 2 rfl rfl <|
    V_cv2 (ct_X9_isSquare I L a1 a2 ) mo_X9_isSquare (tat ok_X9_paint_0 (i := 3) (q := 6) rfl rfl) ml_X9_206 rfl ⟨by decide, _, rfl, rfl⟩ ⟨(Nat.le_of_ble_eq_true rfl), (Nat.le_of_ble_eq_true rfl)⟩ ⟨(Nat.le_of_ble_eq_true rfl), (Nat.le_of_ble_eq_true rfl)⟩ (Nat.le_of_ble_eq_true rfl) <|
    V_if_ne (tat ok_X9_paint_0 (i := 4) (q := 9) rfl rfl) rfl (fun c1 => V_aload_n (tat ok_X9_paint_0 (i := 7) (q := 12) rfl rfl) 0 rfl rfl <|
    V_getL (tat ok_X9_paint_0 (i := 8) (q := 15) rfl rfl) fk_X9_80 rfl <|
    V_iload_n (tat ok_X9_paint_0 (i := 9) (q := 16) rfl rfl) 1 rfl rfl <|
    V_iload_n (tat ok_X9_paint_0 (i := 10) (q := 17) rfl rfl) 2 rfl rfl <|
    V_cs3 (ct_X9_isDark I L (L 33 2) a1 a2 ) mo_X9_isDark (tat ok_X9_paint_0 (i := 11) (q := 20) rfl rfl) ml_X9_210 ⟨(Nat.le_of_ble_eq_true rfl), (Nat.le_of_ble_eq_true rfl)⟩ ⟨(Nat.le_of_ble_eq_true rfl), (Nat.le_of_ble_eq_true rfl)⟩ (Nat.le_of_ble_eq_true rfl) <|
    V_istore (lv' := [(4, .int (F_X9_isDark (L 33 2) a1 a2)), (0, .ref 33), (1, .int a1), (2, .int a2), (3, .int a3)]) (tat ok_X9_paint_0 (i := 12) (q := 22) rfl rfl) (Nat.le_of_ble_eq_true rfl) rfl <|
    V_aload_n (tat ok_X9_paint_0 (i := 13) (q := 23) rfl rfl) 1 rfl rfl <|
    V_iload_n (tat ok_X9_paint_0 (i := 14) (q := 24) rfl rfl) 4 rfl rfl <|
    V_if_eq (tat ok_X9_paint_0 (i := 15) (q := 27) rfl rfl) rfl (fun c2 => V_aload_n (tat ok_X9_paint_0 (i := 23) (q := 41) rfl rfl) 1 rfl rfl <|
    V_getL (tat ok_X9_paint_0 (i := 24) (q := 44) rfl rfl) fk_X9_80 rfl <|
    V_iload_n (tat ok_X9_paint_0 (i := 25) (q := 45) rfl rfl) 2 rfl rfl <|
    V_iload_n (tat ok_X9_paint_0 (i := 26) (q := 46) rfl rfl) 3 rfl rfl <|
    V_cs2 (ct_X9_bitOf I L a1 a2 ) mo_X9_bitOf (tat ok_X9_paint_0 (i := 27) (q := 49) rfl rfl) ml_X9_155 ⟨(Nat.le_of_ble_eq_true rfl), (Nat.le_of_ble_eq_true rfl)⟩ ⟨(Nat.le_of_ble_eq_true rfl), (Nat.le_of_ble_eq_true rfl)⟩ (Nat.le_of_ble_eq_true rfl) <|
    V_ldc2 (tat ok_X9_paint_0 (i := 28) (q := 52) rfl rfl) (gw_in kl_X9_204 rfl) <|
    V_lxor (tat ok_X9_paint_0 (i := 29) (q := 53) rfl rfl) <|
    V_land (tat ok_X9_paint_0 (i := 30) (q := 54) rfl rfl) <|
    V_pick [1, 2, 3, 4, 0] rfl (V_X9_paint_54  hr (jx (P := P) kk (Eq.trans (if_neg c1) (if_pos c2))))) (fun c2 => V_aload_n (tat ok_X9_paint_0 (i := 16) (q := 28) rfl rfl) 1 rfl rfl <|
    V_getL (tat ok_X9_paint_0 (i := 17) (q := 31) rfl rfl) fk_X9_80 rfl <|
    V_iload_n (tat ok_X9_paint_0 (i := 18) (q := 32) rfl rfl) 2 rfl rfl <|
    V_iload_n (tat ok_X9_paint_0 (i := 19) (q := 33) rfl rfl) 3 rfl rfl <|
    V_cs2 (ct_X9_bitOf I L a1 a2 ) mo_X9_bitOf (tat ok_X9_paint_0 (i := 20) (q := 36) rfl rfl) ml_X9_155 ⟨(Nat.le_of_ble_eq_true rfl), (Nat.le_of_ble_eq_true rfl)⟩ ⟨(Nat.le_of_ble_eq_true rfl), (Nat.le_of_ble_eq_true rfl)⟩ (Nat.le_of_ble_eq_true rfl) <|
    V_lor (tat ok_X9_paint_0 (i := 21) (q := 37) rfl rfl) <|
    V_goto (tat ok_X9_paint_0 (i := 22) (q := 40) rfl rfl) rfl <|
    V_pick [1, 2, 3, 4, 0] rfl (V_X9_paint_54  hr (jx (P := P) kk (Eq.trans (if_neg c1) (if_neg c2)))))) (fun c1 => V_iconst (tat ok_X9_paint_0 (i := 5) (q := 10) rfl rfl) ic_m1 <|
    V_iret (tat ok_X9_paint_0 (i := 6) (q := 11) rfl rfl) _ rfl (nar_int _) (hr ((-1), L) (jx (P := P) kk (if_pos c1))) ⟨(Nat.le_of_ble_eq_true rfl), (Nat.le_of_ble_eq_true rfl)⟩)
theorem ct_X9_paint  (I : WI) (L : WL) (a1 : Int32) (a2 : Int32) (a3 : Int32)  : Ct x_X9_paint 3 [.ref 33, .int a1, .int a2, .int a3] ly0 I L R0 0 0 (some (.int (p1 (F_X9_paint I L a1 a2 a3))), ly0, I, (p2 (F_X9_paint I L a1 a2 a3)), R0) :=
  Ct_of_V mo_X9_paint.1 (Nat.le_of_ble_eq_true rfl) (V_X9_paint (P := fun x => x = (F_X9_paint I L a1 a2 a3))  (fun _ e => by rw [e]) rfl)
def F_X9_wish_64 (I : WI) (L : WL) (a1 : Int32) (a2 : Int32) (a3 : Int32) (a4 : Int32) (s0 : Int64) : (Int32 × WL) :=
  (a4, (u2 L 33 3 s0))
theorem V_X9_wish_64  {I : WI} {L : WL} {a1 : Int32} {a2 : Int32} {a3 : Int32} {a4 : Int32} {s0 : Int64} {P : (Int32 × WL) → Prop} {t : Tg} (hr : ∀ v, P v → t = (some (.int (p1 v)), ly0, I, (p2 v), R0)) (kk : P (F_X9_wish_64 I L a1 a2 a3 a4 s0)) : V (zM x_X9_wish 3 0 0 t) 64 [(0, .ref 33), (1, .int a1), (2, .int a2), (3, .int a3), (4, .int a4)] [.long s0, .ref 33] ly0 I L R0 0 0 :=
  V_putL (tat ok_X9_wish_0 (i := 36) (q := 67) rfl rfl) fk_X9_83 rfl rfl <|
    V_iload (tat ok_X9_wish_0 (i := 37) (q := 69) rfl rfl) 4 rfl <|
    V_iret (tat ok_X9_wish_0 (i := 38) (q := 70) rfl rfl) _ rfl (nar_int _) (hr (a4, (u2 L 33 3 s0)) (jx (P := P) kk rfl)) ⟨(Nat.le_of_ble_eq_true rfl), (Nat.le_of_ble_eq_true rfl)⟩
def F_X9_wish (I : WI) (L : WL) (a1 : Int32) (a2 : Int32) (a3 : Int32) : (Int32 × WL) :=
  (if (F_X9_isSquare I a1 a2) = 0 then ((-1), L) else (if (bz (I 33 4)) = 0 then ((-2), L) else (if a3 = 0 then (F_X9_wish_64 I L a1 a2 a3 (F_X9_isDark (L 33 3) a1 a2) ((L 33 3) &&& ((F_X9_bitOf a1 a2) ^^^ (-1)))) else (F_X9_wish_64 I L a1 a2 a3 (F_X9_isDark (L 33 3) a1 a2) ((L 33 3) ||| (F_X9_bitOf a1 a2))))))
theorem V_X9_wish  {I : WI} {L : WL} {a1 : Int32} {a2 : Int32} {a3 : Int32}  {P : (Int32 × WL) → Prop} {t : Tg} (hr : ∀ v, P v → t = (some (.int (p1 v)), ly0, I, (p2 v), R0)) (kk : P (F_X9_wish I L a1 a2 a3)) : V (zM x_X9_wish 3 0 0 t) 0 [(0, .ref 33), (1, .int a1), (2, .int a2), (3, .int a3)] [] ly0 I L R0 0 0 :=
  V_aload_n (tat ok_X9_wish_0 (i := 0) (q := 1) rfl rfl) 0 rfl rfl <|
    V_iload_n (tat ok_X9_wish_0 (i := 1) (q := 2) rfl rfl) 1 rfl rfl <|
    V_iload_n (tat ok_X9_wish_0 (i := 2) (q := 3) rfl rfl) 2 rfl rfl <|
    V_cv2 (ct_X9_isSquare I L a1 a2 ) mo_X9_isSquare (tat ok_X9_wish_0 (i := 3) (q := 6) rfl rfl) ml_X9_206 rfl ⟨by decide, _, rfl, rfl⟩ ⟨(Nat.le_of_ble_eq_true rfl), (Nat.le_of_ble_eq_true rfl)⟩ ⟨(Nat.le_of_ble_eq_true rfl), (Nat.le_of_ble_eq_true rfl)⟩ (Nat.le_of_ble_eq_true rfl) <|
    V_if_ne (tat ok_X9_wish_0 (i := 4) (q := 9) rfl rfl) rfl (fun c1 => V_aload_n (tat ok_X9_wish_0 (i := 7) (q := 12) rfl rfl) 0 rfl rfl <|
    V_getZ (tat ok_X9_wish_0 (i := 8) (q := 15) rfl rfl) fk_X9_86 rfl <|
    V_if_ne (tat ok_X9_wish_0 (i := 9) (q := 18) rfl rfl) rfl (fun c2 => V_aload_n (tat ok_X9_wish_0 (i := 12) (q := 22) rfl rfl) 0 rfl rfl <|
    V_getL (tat ok_X9_wish_0 (i := 13) (q := 25) rfl rfl) fk_X9_83 rfl <|
    V_iload_n (tat ok_X9_wish_0 (i := 14) (q := 26) rfl rfl) 1 rfl rfl <|
    V_iload_n (tat ok_X9_wish_0 (i := 15) (q := 27) rfl rfl) 2 rfl rfl <|
    V_cs3 (ct_X9_isDark I L (L 33 3) a1 a2 ) mo_X9_isDark (tat ok_X9_wish_0 (i := 16) (q := 30) rfl rfl) ml_X9_210 ⟨(Nat.le_of_ble_eq_true rfl), (Nat.le_of_ble_eq_true rfl)⟩ ⟨(Nat.le_of_ble_eq_true rfl), (Nat.le_of_ble_eq_true rfl)⟩ (Nat.le_of_ble_eq_true rfl) <|
    V_istore (lv' := [(4, .int (F_X9_isDark (L 33 3) a1 a2)), (0, .ref 33), (1, .int a1), (2, .int a2), (3, .int a3)]) (tat ok_X9_wish_0 (i := 17) (q := 32) rfl rfl) (Nat.le_of_ble_eq_true rfl) rfl <|
    V_aload_n (tat ok_X9_wish_0 (i := 18) (q := 33) rfl rfl) 1 rfl rfl <|
    V_iload_n (tat ok_X9_wish_0 (i := 19) (q := 34) rfl rfl) 4 rfl rfl <|
    V_if_eq (tat ok_X9_wish_0 (i := 20) (q := 37) rfl rfl) rfl (fun c3 => V_aload_n (tat ok_X9_wish_0 (i := 28) (q := 51) rfl rfl) 1 rfl rfl <|
    V_getL (tat ok_X9_wish_0 (i := 29) (q := 54) rfl rfl) fk_X9_83 rfl <|
    V_iload_n (tat ok_X9_wish_0 (i := 30) (q := 55) rfl rfl) 2 rfl rfl <|
    V_iload_n (tat ok_X9_wish_0 (i := 31) (q := 56) rfl rfl) 3 rfl rfl <|
    V_cs2 (ct_X9_bitOf I L a1 a2 ) mo_X9_bitOf (tat ok_X9_wish_0 (i := 32) (q := 59) rfl rfl) ml_X9_155 ⟨(Nat.le_of_ble_eq_true rfl), (Nat.le_of_ble_eq_true rfl)⟩ ⟨(Nat.le_of_ble_eq_true rfl), (Nat.le_of_ble_eq_true rfl)⟩ (Nat.le_of_ble_eq_true rfl) <|
    V_ldc2 (tat ok_X9_wish_0 (i := 33) (q := 62) rfl rfl) (gw_in kl_X9_204 rfl) <|
    V_lxor (tat ok_X9_wish_0 (i := 34) (q := 63) rfl rfl) <|
    V_land (tat ok_X9_wish_0 (i := 35) (q := 64) rfl rfl) <|
    V_pick [1, 2, 3, 4, 0] rfl (V_X9_wish_64  hr (jx (P := P) kk (Eq.trans (if_neg c1) (Eq.trans (if_neg c2) (if_pos c3)))))) (fun c3 => V_aload_n (tat ok_X9_wish_0 (i := 21) (q := 38) rfl rfl) 1 rfl rfl <|
    V_getL (tat ok_X9_wish_0 (i := 22) (q := 41) rfl rfl) fk_X9_83 rfl <|
    V_iload_n (tat ok_X9_wish_0 (i := 23) (q := 42) rfl rfl) 2 rfl rfl <|
    V_iload_n (tat ok_X9_wish_0 (i := 24) (q := 43) rfl rfl) 3 rfl rfl <|
    V_cs2 (ct_X9_bitOf I L a1 a2 ) mo_X9_bitOf (tat ok_X9_wish_0 (i := 25) (q := 46) rfl rfl) ml_X9_155 ⟨(Nat.le_of_ble_eq_true rfl), (Nat.le_of_ble_eq_true rfl)⟩ ⟨(Nat.le_of_ble_eq_true rfl), (Nat.le_of_ble_eq_true rfl)⟩ (Nat.le_of_ble_eq_true rfl) <|
    V_lor (tat ok_X9_wish_0 (i := 26) (q := 47) rfl rfl) <|
    V_goto (tat ok_X9_wish_0 (i := 27) (q := 50) rfl rfl) rfl <|
    V_pick [1, 2, 3, 4, 0] rfl (V_X9_wish_64  hr (jx (P := P) kk (Eq.trans (if_neg c1) (Eq.trans (if_neg c2) (if_neg c3))))))) (fun c2 => V_bipush (tat ok_X9_wish_0 (i := 10) (q := 20) rfl rfl) bp_m2 <|
    V_iret (tat ok_X9_wish_0 (i := 11) (q := 21) rfl rfl) _ rfl (nar_int _) (hr ((-2), L) (jx (P := P) kk (Eq.trans (if_neg c1) (if_pos c2)))) ⟨(Nat.le_of_ble_eq_true rfl), (Nat.le_of_ble_eq_true rfl)⟩)) (fun c1 => V_iconst (tat ok_X9_wish_0 (i := 5) (q := 10) rfl rfl) ic_m1 <|
    V_iret (tat ok_X9_wish_0 (i := 6) (q := 11) rfl rfl) _ rfl (nar_int _) (hr ((-1), L) (jx (P := P) kk (if_pos c1))) ⟨(Nat.le_of_ble_eq_true rfl), (Nat.le_of_ble_eq_true rfl)⟩)
theorem ct_X9_wish  (I : WI) (L : WL) (a1 : Int32) (a2 : Int32) (a3 : Int32)  : Ct x_X9_wish 3 [.ref 33, .int a1, .int a2, .int a3] ly0 I L R0 0 0 (some (.int (p1 (F_X9_wish I L a1 a2 a3))), ly0, I, (p2 (F_X9_wish I L a1 a2 a3)), R0) :=
  Ct_of_V mo_X9_wish.1 (Nat.le_of_ble_eq_true rfl) (V_X9_wish (P := fun x => x = (F_X9_wish I L a1 a2 a3))  (fun _ e => by rw [e]) rfl)
def F_X9_actSet_96_2 (I : WI) (a1 : Int32) (a2 : Int32) (a5 : Int32) (a6 : Int32) (s0 : Int64) (s1 : Int64) : Int64 :=
  (s1 ||| s0)
theorem V_X9_actSet_96_2  {I : WI} {L : WL} {a1 : Int32} {a2 : Int32} {a5 : Int32} {a6 : Int32} {s0 : Int64} {s1 : Int64} {P : Int64 → Prop} {t : Tg} (hk : ∀ x : Int64, P x → V (zM x_X9_actSet 2 0 0 t) 17 [(0, .ref 33), (1, .int a1), (2, .int a2), (3, .long x), (5, .int a5), (6, .int (a6 + 1))] [] ly0 I L R0 0 0) (kk : P (F_X9_actSet_96_2 I a1 a2 a5 a6 s0 s1)) : V (zM x_X9_actSet 2 0 0 t) 96 [(0, .ref 33), (1, .int a1), (2, .int a2), (5, .int a5), (6, .int a6)] [.long s0, .long s1] ly0 I L R0 0 0 :=
  V_lor (tat ok_X9_actSet_1 (i := 10) (q := 97) rfl rfl) <|
    V_lstore_n (lv' := [(3, .long (s1 ||| s0)), (0, .ref 33), (1, .int a1), (2, .int a2), (5, .int a5), (6, .int a6)]) (tat ok_X9_actSet_1 (i := 11) (q := 98) rfl rfl) rfl (Nat.le_of_ble_eq_true rfl) rfl <|
    V_iinc (v := (a6 + 1)) (lv' := [(6, .int (a6 + 1)), (3, .long (s1 ||| s0)), (0, .ref 33), (1, .int a1), (2, .int a2), (5, .int a5)]) (tat ok_X9_actSet_1 (i := 12) (q := 101) rfl rfl) 5 rfl (ia ic_1) (Nat.le_of_ble_eq_true rfl) rfl <|
    V_goto (tat ok_X9_actSet_1 (i := 13) (q := 104) rfl rfl) rfl <|
    V_pick [2, 3, 4, 1, 5, 0] rfl (hk (s1 ||| s0) (jx (P := P) kk rfl))
def F_X9_actSet_77_2 (I : WI) (a1 : Int32) (a2 : Int32) (a5 : Int32) (a6 : Int32) (a3 : Int64) (s0 : Int32) : Int64 :=
  (if s0 = 0 then (F_X9_actSet_96_2 I a1 a2 a5 a6 0 a3) else (F_X9_actSet_96_2 I a1 a2 a5 a6 (F_X9_bitOf a5 a6) a3))
theorem V_X9_actSet_77_2  {I : WI} {L : WL} {a1 : Int32} {a2 : Int32} {a5 : Int32} {a6 : Int32} {a3 : Int64} {s0 : Int32} {P : Int64 → Prop} {t : Tg} (hs0 : bz s0 = s0) (hk : ∀ x : Int64, P x → V (zM x_X9_actSet 2 0 0 t) 17 [(0, .ref 33), (1, .int a1), (2, .int a2), (3, .long x), (5, .int a5), (6, .int (a6 + 1))] [] ly0 I L R0 0 0) (kk : P (F_X9_actSet_77_2 I a1 a2 a5 a6 a3 s0)) : V (zM x_X9_actSet 2 0 0 t) 77 [(0, .ref 33), (1, .int a1), (2, .int a2), (3, .long a3), (5, .int a5), (6, .int a6)] [.int s0] ly0 I L R0 0 0 :=
  V_istore (lv' := [(7, .int s0), (0, .ref 33), (1, .int a1), (2, .int a2), (3, .long a3), (5, .int a5), (6, .int a6)]) (tat ok_X9_actSet_1 (i := 1) (q := 79) rfl rfl) (Nat.le_of_ble_eq_true rfl) rfl <|
    V_lload_n (tat ok_X9_actSet_1 (i := 2) (q := 80) rfl rfl) 4 rfl rfl <|
    V_iload (tat ok_X9_actSet_1 (i := 3) (q := 82) rfl rfl) 0 rfl <|
    V_if_eq (tat ok_X9_actSet_1 (i := 4) (q := 85) rfl rfl) rfl (fun c3 => V_lconst (v := 0) (tat ok_X9_actSet_1 (i := 9) (q := 96) rfl rfl) rfl <|
    V_pick [1, 2, 3, 5, 6] rfl (V_X9_actSet_96_2  hk (jx (P := P) kk (if_pos c3)))) (fun c3 => V_iload (tat ok_X9_actSet_1 (i := 5) (q := 87) rfl rfl) 5 rfl <|
    V_iload (tat ok_X9_actSet_1 (i := 6) (q := 89) rfl rfl) 6 rfl <|
    V_cs2 (ct_X9_bitOf I L a5 a6 ) mo_X9_bitOf (tat ok_X9_actSet_1 (i := 7) (q := 92) rfl rfl) ml_X9_155 ⟨(Nat.le_of_ble_eq_true rfl), (Nat.le_of_ble_eq_true rfl)⟩ ⟨(Nat.le_of_ble_eq_true rfl), (Nat.le_of_ble_eq_true rfl)⟩ (Nat.le_of_ble_eq_true rfl) <|
    V_goto (tat ok_X9_actSet_1 (i := 8) (q := 95) rfl rfl) rfl <|
    V_pick [1, 2, 3, 5, 6] rfl (V_X9_actSet_96_2  hk (jx (P := P) kk (if_neg c3))))
def F_X9_actSet_26_2 (I : WI) (a1 : Int32) (a2 : Int32) (a5 : Int32) (a6 : Int32) (a3 : Int64) : Int64 :=
  (if a1 = 0 then (if a5 = a2 then (F_X9_actSet_77_2 I a1 a2 a5 a6 a3 1) else (F_X9_actSet_77_2 I a1 a2 a5 a6 a3 0)) else (if a1 = 1 then (if a6 = a2 then (F_X9_actSet_77_2 I a1 a2 a5 a6 a3 1) else (F_X9_actSet_77_2 I a1 a2 a5 a6 a3 0)) else (if (a5 + a6) = a2 then (F_X9_actSet_77_2 I a1 a2 a5 a6 a3 1) else (F_X9_actSet_77_2 I a1 a2 a5 a6 a3 0))))
theorem V_X9_actSet_26_2  {I : WI} {L : WL} {a1 : Int32} {a2 : Int32} {a5 : Int32} {a6 : Int32} {a3 : Int64} {P : Int64 → Prop} {t : Tg} (hk : ∀ x : Int64, P x → V (zM x_X9_actSet 2 0 0 t) 17 [(0, .ref 33), (1, .int a1), (2, .int a2), (3, .long x), (5, .int a5), (6, .int (a6 + 1))] [] ly0 I L R0 0 0) (kk : P (F_X9_actSet_26_2 I a1 a2 a5 a6 a3)) : V (zM x_X9_actSet 2 0 0 t) 26 [(0, .ref 33), (1, .int a1), (2, .int a2), (3, .long a3), (5, .int a5), (6, .int a6)] [] ly0 I L R0 0 0 :=
  V_iload_n (tat ok_X9_actSet_0 (i := 14) (q := 27) rfl rfl) 1 rfl rfl <|
    V_if_ne (tat ok_X9_actSet_0 (i := 15) (q := 30) rfl rfl) rfl (fun c1 => V_iload_n (tat ok_X9_actSet_0 (i := 23) (q := 45) rfl rfl) 1 rfl rfl <|
    V_iconst (tat ok_X9_actSet_0 (i := 24) (q := 46) rfl rfl) ic_1 <|
    V_icmp_ne (tat ok_X9_actSet_0 (i := 25) (q := 49) rfl rfl) rfl (fun c4 => V_iload (tat ok_X9_actSet_0 (i := 33) (q := 65) rfl rfl) 4 rfl <|
    V_iload (tat ok_X9_actSet_0 (i := 34) (q := 67) rfl rfl) 5 rfl <|
    V_iadd (tat ok_X9_actSet_0 (i := 35) (q := 68) rfl rfl) <|
    V_iload_n (tat ok_X9_actSet_0 (i := 36) (q := 69) rfl rfl) 2 rfl rfl <|
    V_icmp_ne (tat ok_X9_actSet_0 (i := 37) (q := 72) rfl rfl) rfl (fun c6 => V_iconst (tat ok_X9_actSet_1 (i := 0) (q := 77) rfl rfl) ic_0 <|
    V_X9_actSet_77_2 rfl hk (jx (P := P) kk (Eq.trans (if_neg c1) (Eq.trans (if_neg c4) (if_neg c6))))) (fun c6 => V_iconst (tat ok_X9_actSet_0 (i := 38) (q := 73) rfl rfl) ic_1 <|
    V_goto (tat ok_X9_actSet_0 (i := 39) (q := 76) rfl rfl) rfl <|
    V_X9_actSet_77_2 rfl hk (jx (P := P) kk (Eq.trans (if_neg c1) (Eq.trans (if_neg c4) (if_pos c6)))))) (fun c4 => V_iload (tat ok_X9_actSet_0 (i := 26) (q := 51) rfl rfl) 5 rfl <|
    V_iload_n (tat ok_X9_actSet_0 (i := 27) (q := 52) rfl rfl) 2 rfl rfl <|
    V_icmp_ne (tat ok_X9_actSet_0 (i := 28) (q := 55) rfl rfl) rfl (fun c5 => V_iconst (tat ok_X9_actSet_0 (i := 31) (q := 60) rfl rfl) ic_0 <|
    V_goto (tat ok_X9_actSet_0 (i := 32) (q := 63) rfl rfl) rfl <|
    V_X9_actSet_77_2 rfl hk (jx (P := P) kk (Eq.trans (if_neg c1) (Eq.trans (if_pos c4) (if_neg c5))))) (fun c5 => V_iconst (tat ok_X9_actSet_0 (i := 29) (q := 56) rfl rfl) ic_1 <|
    V_goto (tat ok_X9_actSet_0 (i := 30) (q := 59) rfl rfl) rfl <|
    V_X9_actSet_77_2 rfl hk (jx (P := P) kk (Eq.trans (if_neg c1) (Eq.trans (if_pos c4) (if_pos c5))))))) (fun c1 => V_iload (tat ok_X9_actSet_0 (i := 16) (q := 32) rfl rfl) 4 rfl <|
    V_iload_n (tat ok_X9_actSet_0 (i := 17) (q := 33) rfl rfl) 2 rfl rfl <|
    V_icmp_ne (tat ok_X9_actSet_0 (i := 18) (q := 36) rfl rfl) rfl (fun c2 => V_iconst (tat ok_X9_actSet_0 (i := 21) (q := 41) rfl rfl) ic_0 <|
    V_goto (tat ok_X9_actSet_0 (i := 22) (q := 44) rfl rfl) rfl <|
    V_X9_actSet_77_2 rfl hk (jx (P := P) kk (Eq.trans (if_pos c1) (if_neg c2)))) (fun c2 => V_iconst (tat ok_X9_actSet_0 (i := 19) (q := 37) rfl rfl) ic_1 <|
    V_goto (tat ok_X9_actSet_0 (i := 20) (q := 40) rfl rfl) rfl <|
    V_X9_actSet_77_2 rfl hk (jx (P := P) kk (Eq.trans (if_pos c1) (if_pos c2)))))
def F_X9_actSet_104_1 (I : WI) (a1 : Int32) (a2 : Int32) (a5 : Int32) (a3 : Int64) : Int64 :=
  a3
theorem V_X9_actSet_104_1  {I : WI} {L : WL} {a1 : Int32} {a2 : Int32} {a5 : Int32} {a3 : Int64} {P : Int64 → Prop} {t : Tg} (hk : ∀ x : Int64, P x → V (zM x_X9_actSet 2 0 0 t) 5 [(0, .ref 33), (1, .int a1), (2, .int a2), (3, .long x), (5, .int (a5 + 1))] [] ly0 I L R0 0 0) (kk : P (F_X9_actSet_104_1 I a1 a2 a5 a3)) : V (zM x_X9_actSet 2 0 0 t) 104 [(0, .ref 33), (1, .int a1), (2, .int a2), (3, .long a3), (5, .int a5)] [] ly0 I L R0 0 0 :=
  V_iinc (v := (a5 + 1)) (lv' := [(5, .int (a5 + 1)), (0, .ref 33), (1, .int a1), (2, .int a2), (3, .long a3)]) (tat ok_X9_actSet_1 (i := 14) (q := 107) rfl rfl) 4 rfl (ia ic_1) (Nat.le_of_ble_eq_true rfl) rfl <|
    V_goto (tat ok_X9_actSet_1 (i := 15) (q := 110) rfl rfl) rfl <|
    V_pick [1, 2, 3, 4, 0] rfl (hk a3 (jx (P := P) kk rfl))
def F_X9_actSet_17_1 (I : WI) (a1 : Int32) (a2 : Int32) (a5 : Int32) (a3 : Int64) (a6 : Int32) : Int64 :=
  (fun q : Int32 × Int64 => (F_X9_actSet_104_1 I a1 a2 a5 (p2 q))) (fr0 (fun i x => (F_X9_actSet_26_2 I a1 a2 a5 i x)) (I 33 1) (fu a6 (I 33 1)) a6 a3)
theorem V_X9_actSet_17_1  {I : WI} {L : WL} {a1 : Int32} {a2 : Int32} {a5 : Int32} {a3 : Int64} {a6 : Int32} {P : Int64 → Prop} {t : Tg} (hb6 : bz a6 = a6) (hk : ∀ x : Int64, P x → V (zM x_X9_actSet 2 0 0 t) 5 [(0, .ref 33), (1, .int a1), (2, .int a2), (3, .long x), (5, .int (a5 + 1))] [] ly0 I L R0 0 0) (kk : P (F_X9_actSet_17_1 I a1 a2 a5 a3 a6)) : V (zM x_X9_actSet 2 0 0 t) 17 [(0, .ref 33), (1, .int a1), (2, .int a2), (3, .long a3), (5, .int a5), (6, .int a6)] [] ly0 I L R0 0 0 :=
  V_fr0 (fun i x => (F_X9_actSet_26_2 I a1 a2 a5 i x)) (I 33 1) (fun i x => V (zM x_X9_actSet 2 0 0 t) 17 [(0, .ref 33), (1, .int a1), (2, .int a2), (3, .long x), (5, .int a5), (6, .int i)] [] ly0 I L R0 0 0) (fun i x => P ((F_X9_actSet_104_1 I a1 a2 a5 x))) (c := a6) (s := a3) (fun i x kx kb => V_iload (tat ok_X9_actSet_0 (i := 10) (q := 19) rfl rfl) 5 rfl <|
    V_aload_n (tat ok_X9_actSet_0 (i := 11) (q := 20) rfl rfl) 0 rfl rfl <|
    V_getI (tat ok_X9_actSet_0 (i := 12) (q := 23) rfl rfl) fk_X9_77 rfl <|
    V_icmp_ge (tat ok_X9_actSet_0 (i := 13) (q := 26) rfl rfl) rfl (fun c0 => V_pick [0, 1, 2, 3, 4] rfl (V_X9_actSet_104_1  hk (kx c0))) (fun c0 => V_X9_actSet_26_2 (P := (fun x => (fun i x => V (zM x_X9_actSet 2 0 0 t) 17 [(0, .ref 33), (1, .int a1), (2, .int a2), (3, .long x), (5, .int a5), (6, .int i)] [] ly0 I L R0 0 0) (i + 1) x))  (fun _ e => e) (kb c0))) kk
def F_X9_actSet_14_1 (I : WI) (a1 : Int32) (a2 : Int32) (a5 : Int32) (a3 : Int64) : Int64 :=
  (F_X9_actSet_17_1 I a1 a2 a5 a3 0)
theorem V_X9_actSet_14_1  {I : WI} {L : WL} {a1 : Int32} {a2 : Int32} {a5 : Int32} {a3 : Int64} {P : Int64 → Prop} {t : Tg} (hk : ∀ x : Int64, P x → V (zM x_X9_actSet 2 0 0 t) 5 [(0, .ref 33), (1, .int a1), (2, .int a2), (3, .long x), (5, .int (a5 + 1))] [] ly0 I L R0 0 0) (kk : P (F_X9_actSet_14_1 I a1 a2 a5 a3)) : V (zM x_X9_actSet 2 0 0 t) 14 [(0, .ref 33), (1, .int a1), (2, .int a2), (3, .long a3), (5, .int a5)] [] ly0 I L R0 0 0 :=
  V_iconst (tat ok_X9_actSet_0 (i := 8) (q := 15) rfl rfl) ic_0 <|
    V_istore (lv' := [(6, .int 0), (0, .ref 33), (1, .int a1), (2, .int a2), (3, .long a3), (5, .int a5)]) (tat ok_X9_actSet_0 (i := 9) (q := 17) rfl rfl) (Nat.le_of_ble_eq_true rfl) rfl <|
    V_pick [1, 2, 3, 4, 5, 0] rfl (V_X9_actSet_17_1 rfl hk (jx (P := P) kk rfl))
def F_X9_actSet_110 (I : WI) (a1 : Int32) (a2 : Int32) (a3 : Int64) : Int64 :=
  a3
theorem V_X9_actSet_110  {I : WI} {L : WL} {a1 : Int32} {a2 : Int32} {a3 : Int64} {P : Int64 → Prop} {t : Tg} (hr : ∀ v, P v → t = (some (.long v), ly0, I, L, R0)) (kk : P (F_X9_actSet_110 I a1 a2 a3)) : V (zM x_X9_actSet 2 0 0 t) 110 [(0, .ref 33), (1, .int a1), (2, .int a2), (3, .long a3)] [] ly0 I L R0 0 0 :=
  V_lload_n (tat ok_X9_actSet_1 (i := 16) (q := 111) rfl rfl) 3 rfl rfl <|
    V_lret (tat ok_X9_actSet_1 (i := 17) (q := 112) rfl rfl) rfl (hr a3 (jx (P := P) kk rfl)) ⟨(Nat.le_of_ble_eq_true rfl), (Nat.le_of_ble_eq_true rfl)⟩
def F_X9_actSet_5 (I : WI) (a1 : Int32) (a2 : Int32) (a3 : Int64) (a5 : Int32) : Int64 :=
  (fun q : Int32 × Int64 => (F_X9_actSet_110 I a1 a2 (p2 q))) (fr0 (fun i x => (F_X9_actSet_14_1 I a1 a2 i x)) (I 33 0) (fu a5 (I 33 0)) a5 a3)
theorem V_X9_actSet_5  {I : WI} {L : WL} {a1 : Int32} {a2 : Int32} {a3 : Int64} {a5 : Int32} {P : Int64 → Prop} {t : Tg} (hb5 : bz a5 = a5) (hr : ∀ v, P v → t = (some (.long v), ly0, I, L, R0)) (kk : P (F_X9_actSet_5 I a1 a2 a3 a5)) : V (zM x_X9_actSet 2 0 0 t) 5 [(0, .ref 33), (1, .int a1), (2, .int a2), (3, .long a3), (5, .int a5)] [] ly0 I L R0 0 0 :=
  V_fr0 (fun i x => (F_X9_actSet_14_1 I a1 a2 i x)) (I 33 0) (fun i x => V (zM x_X9_actSet 2 0 0 t) 5 [(0, .ref 33), (1, .int a1), (2, .int a2), (3, .long x), (5, .int i)] [] ly0 I L R0 0 0) (fun i x => P ((F_X9_actSet_110 I a1 a2 x))) (c := a5) (s := a3) (fun i x kx kb => V_iload (tat ok_X9_actSet_0 (i := 4) (q := 7) rfl rfl) 4 rfl <|
    V_aload_n (tat ok_X9_actSet_0 (i := 5) (q := 8) rfl rfl) 0 rfl rfl <|
    V_getI (tat ok_X9_actSet_0 (i := 6) (q := 11) rfl rfl) fk_X9_74 rfl <|
    V_icmp_ge (tat ok_X9_actSet_0 (i := 7) (q := 14) rfl rfl) rfl (fun c0 => V_pick [0, 1, 2, 3] rfl (V_X9_actSet_110  hr (kx c0))) (fun c0 => V_X9_actSet_14_1 (P := (fun x => (fun i x => V (zM x_X9_actSet 2 0 0 t) 5 [(0, .ref 33), (1, .int a1), (2, .int a2), (3, .long x), (5, .int i)] [] ly0 I L R0 0 0) (i + 1) x))  (fun _ e => e) (kb c0))) kk
def F_X9_actSet (I : WI) (a1 : Int32) (a2 : Int32) : Int64 :=
  (F_X9_actSet_5 I a1 a2 0 0)
theorem V_X9_actSet  {I : WI} {L : WL} {a1 : Int32} {a2 : Int32}  {P : Int64 → Prop} {t : Tg} (hr : ∀ v, P v → t = (some (.long v), ly0, I, L, R0)) (kk : P (F_X9_actSet I a1 a2)) : V (zM x_X9_actSet 2 0 0 t) 0 [(0, .ref 33), (1, .int a1), (2, .int a2)] [] ly0 I L R0 0 0 :=
  V_lconst (v := 0) (tat ok_X9_actSet_0 (i := 0) (q := 1) rfl rfl) rfl <|
    V_lstore_n (lv' := [(3, .long 0), (0, .ref 33), (1, .int a1), (2, .int a2)]) (tat ok_X9_actSet_0 (i := 1) (q := 2) rfl rfl) rfl (Nat.le_of_ble_eq_true rfl) rfl <|
    V_iconst (tat ok_X9_actSet_0 (i := 2) (q := 3) rfl rfl) ic_0 <|
    V_istore (lv' := [(5, .int 0), (3, .long 0), (0, .ref 33), (1, .int a1), (2, .int a2)]) (tat ok_X9_actSet_0 (i := 3) (q := 5) rfl rfl) (Nat.le_of_ble_eq_true rfl) rfl <|
    V_pick [2, 3, 4, 1, 0] rfl (V_X9_actSet_5 rfl hr (jx (P := P) kk rfl))
theorem ct_X9_actSet  (I : WI) (L : WL) (a1 : Int32) (a2 : Int32)  : Ct x_X9_actSet 2 [.ref 33, .int a1, .int a2] ly0 I L R0 0 0 (some (.long (F_X9_actSet I a1 a2)), ly0, I, L, R0) :=
  Ct_of_V mo_X9_actSet.1 (Nat.le_of_ble_eq_true rfl) (V_X9_actSet (P := fun x => x = (F_X9_actSet I a1 a2))  (fun _ e => by rw [e]) rfl)
def F_X9_turnSet_53_2 (I : WI) (a1 : Int32) (a2 : Int32) (a5 : Int32) (a6 : Int32) (s0 : Int64) (s1 : Int64) : Int64 :=
  (s1 ||| s0)
theorem V_X9_turnSet_53_2  {I : WI} {L : WL} {a1 : Int32} {a2 : Int32} {a5 : Int32} {a6 : Int32} {s0 : Int64} {s1 : Int64} {P : Int64 → Prop} {t : Tg} (hk : ∀ x : Int64, P x → V (zM x_X9_turnSet 2 0 0 t) 17 [(0, .ref 33), (1, .int a1), (2, .int a2), (3, .long x), (5, .int a5), (6, .int (a6 + 1))] [] ly0 I L R0 0 0) (kk : P (F_X9_turnSet_53_2 I a1 a2 a5 a6 s0 s1)) : V (zM x_X9_turnSet 2 0 0 t) 53 [(0, .ref 33), (1, .int a1), (2, .int a2), (5, .int a5), (6, .int a6)] [.long s0, .long s1] ly0 I L R0 0 0 :=
  V_lor (tat ok_X9_turnSet_0 (i := 31) (q := 54) rfl rfl) <|
    V_lstore_n (lv' := [(3, .long (s1 ||| s0)), (0, .ref 33), (1, .int a1), (2, .int a2), (5, .int a5), (6, .int a6)]) (tat ok_X9_turnSet_0 (i := 32) (q := 55) rfl rfl) rfl (Nat.le_of_ble_eq_true rfl) rfl <|
    V_iinc (v := (a6 + 1)) (lv' := [(6, .int (a6 + 1)), (3, .long (s1 ||| s0)), (0, .ref 33), (1, .int a1), (2, .int a2), (5, .int a5)]) (tat ok_X9_turnSet_0 (i := 33) (q := 58) rfl rfl) 5 rfl (ia ic_1) (Nat.le_of_ble_eq_true rfl) rfl <|
    V_goto (tat ok_X9_turnSet_0 (i := 34) (q := 61) rfl rfl) rfl <|
    V_pick [2, 3, 4, 1, 5, 0] rfl (hk (s1 ||| s0) (jx (P := P) kk rfl))
def F_X9_turnSet_26_2 (I : WI) (a1 : Int32) (a2 : Int32) (a5 : Int32) (a6 : Int32) (a3 : Int64) : Int64 :=
  (if (((a1 >>> (a5 &&& 31)) ^^^ (a2 >>> (a6 &&& 31))) &&& 1) = 1 then (F_X9_turnSet_53_2 I a1 a2 a5 a6 (F_X9_bitOf a5 a6) a3) else (F_X9_turnSet_53_2 I a1 a2 a5 a6 0 a3))
theorem V_X9_turnSet_26_2  {I : WI} {L : WL} {a1 : Int32} {a2 : Int32} {a5 : Int32} {a6 : Int32} {a3 : Int64} {P : Int64 → Prop} {t : Tg} (hk : ∀ x : Int64, P x → V (zM x_X9_turnSet 2 0 0 t) 17 [(0, .ref 33), (1, .int a1), (2, .int a2), (3, .long x), (5, .int a5), (6, .int (a6 + 1))] [] ly0 I L R0 0 0) (kk : P (F_X9_turnSet_26_2 I a1 a2 a5 a6 a3)) : V (zM x_X9_turnSet 2 0 0 t) 26 [(0, .ref 33), (1, .int a1), (2, .int a2), (3, .long a3), (5, .int a5), (6, .int a6)] [] ly0 I L R0 0 0 :=
  V_lload_n (tat ok_X9_turnSet_0 (i := 14) (q := 27) rfl rfl) 3 rfl rfl <|
    V_iload_n (tat ok_X9_turnSet_0 (i := 15) (q := 28) rfl rfl) 1 rfl rfl <|
    V_iload (tat ok_X9_turnSet_0 (i := 16) (q := 30) rfl rfl) 4 rfl <|
    V_ishr (tat ok_X9_turnSet_0 (i := 17) (q := 31) rfl rfl) <|
    V_iload_n (tat ok_X9_turnSet_0 (i := 18) (q := 32) rfl rfl) 2 rfl rfl <|
    V_iload (tat ok_X9_turnSet_0 (i := 19) (q := 34) rfl rfl) 5 rfl <|
    V_ishr (tat ok_X9_turnSet_0 (i := 20) (q := 35) rfl rfl) <|
    V_ixor (tat ok_X9_turnSet_0 (i := 21) (q := 36) rfl rfl) <|
    V_iconst (tat ok_X9_turnSet_0 (i := 22) (q := 37) rfl rfl) ic_1 <|
    V_iand (tat ok_X9_turnSet_0 (i := 23) (q := 38) rfl rfl) <|
    V_iconst (tat ok_X9_turnSet_0 (i := 24) (q := 39) rfl rfl) ic_1 <|
    V_icmp_ne (tat ok_X9_turnSet_0 (i := 25) (q := 42) rfl rfl) rfl (fun c1 => V_lconst (v := 0) (tat ok_X9_turnSet_0 (i := 30) (q := 53) rfl rfl) rfl <|
    V_pick [0, 1, 2, 4, 5] rfl (V_X9_turnSet_53_2  hk (jx (P := P) kk (if_neg c1)))) (fun c1 => V_iload (tat ok_X9_turnSet_0 (i := 26) (q := 44) rfl rfl) 4 rfl <|
    V_iload (tat ok_X9_turnSet_0 (i := 27) (q := 46) rfl rfl) 5 rfl <|
    V_cs2 (ct_X9_bitOf I L a5 a6 ) mo_X9_bitOf (tat ok_X9_turnSet_0 (i := 28) (q := 49) rfl rfl) ml_X9_155 ⟨(Nat.le_of_ble_eq_true rfl), (Nat.le_of_ble_eq_true rfl)⟩ ⟨(Nat.le_of_ble_eq_true rfl), (Nat.le_of_ble_eq_true rfl)⟩ (Nat.le_of_ble_eq_true rfl) <|
    V_goto (tat ok_X9_turnSet_0 (i := 29) (q := 52) rfl rfl) rfl <|
    V_pick [0, 1, 2, 4, 5] rfl (V_X9_turnSet_53_2  hk (jx (P := P) kk (if_pos c1))))
def F_X9_turnSet_61_1 (I : WI) (a1 : Int32) (a2 : Int32) (a5 : Int32) (a3 : Int64) : Int64 :=
  a3
theorem V_X9_turnSet_61_1  {I : WI} {L : WL} {a1 : Int32} {a2 : Int32} {a5 : Int32} {a3 : Int64} {P : Int64 → Prop} {t : Tg} (hk : ∀ x : Int64, P x → V (zM x_X9_turnSet 2 0 0 t) 5 [(0, .ref 33), (1, .int a1), (2, .int a2), (3, .long x), (5, .int (a5 + 1))] [] ly0 I L R0 0 0) (kk : P (F_X9_turnSet_61_1 I a1 a2 a5 a3)) : V (zM x_X9_turnSet 2 0 0 t) 61 [(0, .ref 33), (1, .int a1), (2, .int a2), (3, .long a3), (5, .int a5)] [] ly0 I L R0 0 0 :=
  V_iinc (v := (a5 + 1)) (lv' := [(5, .int (a5 + 1)), (0, .ref 33), (1, .int a1), (2, .int a2), (3, .long a3)]) (tat ok_X9_turnSet_0 (i := 35) (q := 64) rfl rfl) 4 rfl (ia ic_1) (Nat.le_of_ble_eq_true rfl) rfl <|
    V_goto (tat ok_X9_turnSet_0 (i := 36) (q := 67) rfl rfl) rfl <|
    V_pick [1, 2, 3, 4, 0] rfl (hk a3 (jx (P := P) kk rfl))
def F_X9_turnSet_17_1 (I : WI) (a1 : Int32) (a2 : Int32) (a5 : Int32) (a3 : Int64) (a6 : Int32) : Int64 :=
  (fun q : Int32 × Int64 => (F_X9_turnSet_61_1 I a1 a2 a5 (p2 q))) (fr0 (fun i x => (F_X9_turnSet_26_2 I a1 a2 a5 i x)) (I 33 1) (fu a6 (I 33 1)) a6 a3)
theorem V_X9_turnSet_17_1  {I : WI} {L : WL} {a1 : Int32} {a2 : Int32} {a5 : Int32} {a3 : Int64} {a6 : Int32} {P : Int64 → Prop} {t : Tg} (hb6 : bz a6 = a6) (hk : ∀ x : Int64, P x → V (zM x_X9_turnSet 2 0 0 t) 5 [(0, .ref 33), (1, .int a1), (2, .int a2), (3, .long x), (5, .int (a5 + 1))] [] ly0 I L R0 0 0) (kk : P (F_X9_turnSet_17_1 I a1 a2 a5 a3 a6)) : V (zM x_X9_turnSet 2 0 0 t) 17 [(0, .ref 33), (1, .int a1), (2, .int a2), (3, .long a3), (5, .int a5), (6, .int a6)] [] ly0 I L R0 0 0 :=
  V_fr0 (fun i x => (F_X9_turnSet_26_2 I a1 a2 a5 i x)) (I 33 1) (fun i x => V (zM x_X9_turnSet 2 0 0 t) 17 [(0, .ref 33), (1, .int a1), (2, .int a2), (3, .long x), (5, .int a5), (6, .int i)] [] ly0 I L R0 0 0) (fun i x => P ((F_X9_turnSet_61_1 I a1 a2 a5 x))) (c := a6) (s := a3) (fun i x kx kb => V_iload (tat ok_X9_turnSet_0 (i := 10) (q := 19) rfl rfl) 5 rfl <|
    V_aload_n (tat ok_X9_turnSet_0 (i := 11) (q := 20) rfl rfl) 0 rfl rfl <|
    V_getI (tat ok_X9_turnSet_0 (i := 12) (q := 23) rfl rfl) fk_X9_77 rfl <|
    V_icmp_ge (tat ok_X9_turnSet_0 (i := 13) (q := 26) rfl rfl) rfl (fun c0 => V_pick [0, 1, 2, 3, 4] rfl (V_X9_turnSet_61_1  hk (kx c0))) (fun c0 => V_X9_turnSet_26_2 (P := (fun x => (fun i x => V (zM x_X9_turnSet 2 0 0 t) 17 [(0, .ref 33), (1, .int a1), (2, .int a2), (3, .long x), (5, .int a5), (6, .int i)] [] ly0 I L R0 0 0) (i + 1) x))  (fun _ e => e) (kb c0))) kk
def F_X9_turnSet_14_1 (I : WI) (a1 : Int32) (a2 : Int32) (a5 : Int32) (a3 : Int64) : Int64 :=
  (F_X9_turnSet_17_1 I a1 a2 a5 a3 0)
theorem V_X9_turnSet_14_1  {I : WI} {L : WL} {a1 : Int32} {a2 : Int32} {a5 : Int32} {a3 : Int64} {P : Int64 → Prop} {t : Tg} (hk : ∀ x : Int64, P x → V (zM x_X9_turnSet 2 0 0 t) 5 [(0, .ref 33), (1, .int a1), (2, .int a2), (3, .long x), (5, .int (a5 + 1))] [] ly0 I L R0 0 0) (kk : P (F_X9_turnSet_14_1 I a1 a2 a5 a3)) : V (zM x_X9_turnSet 2 0 0 t) 14 [(0, .ref 33), (1, .int a1), (2, .int a2), (3, .long a3), (5, .int a5)] [] ly0 I L R0 0 0 :=
  V_iconst (tat ok_X9_turnSet_0 (i := 8) (q := 15) rfl rfl) ic_0 <|
    V_istore (lv' := [(6, .int 0), (0, .ref 33), (1, .int a1), (2, .int a2), (3, .long a3), (5, .int a5)]) (tat ok_X9_turnSet_0 (i := 9) (q := 17) rfl rfl) (Nat.le_of_ble_eq_true rfl) rfl <|
    V_pick [1, 2, 3, 4, 5, 0] rfl (V_X9_turnSet_17_1 rfl hk (jx (P := P) kk rfl))
def F_X9_turnSet_67 (I : WI) (a1 : Int32) (a2 : Int32) (a3 : Int64) : Int64 :=
  a3
theorem V_X9_turnSet_67  {I : WI} {L : WL} {a1 : Int32} {a2 : Int32} {a3 : Int64} {P : Int64 → Prop} {t : Tg} (hr : ∀ v, P v → t = (some (.long v), ly0, I, L, R0)) (kk : P (F_X9_turnSet_67 I a1 a2 a3)) : V (zM x_X9_turnSet 2 0 0 t) 67 [(0, .ref 33), (1, .int a1), (2, .int a2), (3, .long a3)] [] ly0 I L R0 0 0 :=
  V_lload_n (tat ok_X9_turnSet_0 (i := 37) (q := 68) rfl rfl) 3 rfl rfl <|
    V_lret (tat ok_X9_turnSet_0 (i := 38) (q := 69) rfl rfl) rfl (hr a3 (jx (P := P) kk rfl)) ⟨(Nat.le_of_ble_eq_true rfl), (Nat.le_of_ble_eq_true rfl)⟩
def F_X9_turnSet_5 (I : WI) (a1 : Int32) (a2 : Int32) (a3 : Int64) (a5 : Int32) : Int64 :=
  (fun q : Int32 × Int64 => (F_X9_turnSet_67 I a1 a2 (p2 q))) (fr0 (fun i x => (F_X9_turnSet_14_1 I a1 a2 i x)) (I 33 0) (fu a5 (I 33 0)) a5 a3)
theorem V_X9_turnSet_5  {I : WI} {L : WL} {a1 : Int32} {a2 : Int32} {a3 : Int64} {a5 : Int32} {P : Int64 → Prop} {t : Tg} (hb5 : bz a5 = a5) (hr : ∀ v, P v → t = (some (.long v), ly0, I, L, R0)) (kk : P (F_X9_turnSet_5 I a1 a2 a3 a5)) : V (zM x_X9_turnSet 2 0 0 t) 5 [(0, .ref 33), (1, .int a1), (2, .int a2), (3, .long a3), (5, .int a5)] [] ly0 I L R0 0 0 :=
  V_fr0 (fun i x => (F_X9_turnSet_14_1 I a1 a2 i x)) (I 33 0) (fun i x => V (zM x_X9_turnSet 2 0 0 t) 5 [(0, .ref 33), (1, .int a1), (2, .int a2), (3, .long x), (5, .int i)] [] ly0 I L R0 0 0) (fun i x => P ((F_X9_turnSet_67 I a1 a2 x))) (c := a5) (s := a3) (fun i x kx kb => V_iload (tat ok_X9_turnSet_0 (i := 4) (q := 7) rfl rfl) 4 rfl <|
    V_aload_n (tat ok_X9_turnSet_0 (i := 5) (q := 8) rfl rfl) 0 rfl rfl <|
    V_getI (tat ok_X9_turnSet_0 (i := 6) (q := 11) rfl rfl) fk_X9_74 rfl <|
    V_icmp_ge (tat ok_X9_turnSet_0 (i := 7) (q := 14) rfl rfl) rfl (fun c0 => V_pick [0, 1, 2, 3] rfl (V_X9_turnSet_67  hr (kx c0))) (fun c0 => V_X9_turnSet_14_1 (P := (fun x => (fun i x => V (zM x_X9_turnSet 2 0 0 t) 5 [(0, .ref 33), (1, .int a1), (2, .int a2), (3, .long x), (5, .int i)] [] ly0 I L R0 0 0) (i + 1) x))  (fun _ e => e) (kb c0))) kk
def F_X9_turnSet (I : WI) (a1 : Int32) (a2 : Int32) : Int64 :=
  (F_X9_turnSet_5 I a1 a2 0 0)
theorem V_X9_turnSet  {I : WI} {L : WL} {a1 : Int32} {a2 : Int32}  {P : Int64 → Prop} {t : Tg} (hr : ∀ v, P v → t = (some (.long v), ly0, I, L, R0)) (kk : P (F_X9_turnSet I a1 a2)) : V (zM x_X9_turnSet 2 0 0 t) 0 [(0, .ref 33), (1, .int a1), (2, .int a2)] [] ly0 I L R0 0 0 :=
  V_lconst (v := 0) (tat ok_X9_turnSet_0 (i := 0) (q := 1) rfl rfl) rfl <|
    V_lstore_n (lv' := [(3, .long 0), (0, .ref 33), (1, .int a1), (2, .int a2)]) (tat ok_X9_turnSet_0 (i := 1) (q := 2) rfl rfl) rfl (Nat.le_of_ble_eq_true rfl) rfl <|
    V_iconst (tat ok_X9_turnSet_0 (i := 2) (q := 3) rfl rfl) ic_0 <|
    V_istore (lv' := [(5, .int 0), (3, .long 0), (0, .ref 33), (1, .int a1), (2, .int a2)]) (tat ok_X9_turnSet_0 (i := 3) (q := 5) rfl rfl) (Nat.le_of_ble_eq_true rfl) rfl <|
    V_pick [2, 3, 4, 1, 0] rfl (V_X9_turnSet_5 rfl hr (jx (P := P) kk rfl))
theorem ct_X9_turnSet  (I : WI) (L : WL) (a1 : Int32) (a2 : Int32)  : Ct x_X9_turnSet 2 [.ref 33, .int a1, .int a2] ly0 I L R0 0 0 (some (.long (F_X9_turnSet I a1 a2)), ly0, I, L, R0) :=
  Ct_of_V mo_X9_turnSet.1 (Nat.le_of_ble_eq_true rfl) (V_X9_turnSet (P := fun x => x = (F_X9_turnSet I a1 a2))  (fun _ e => by rw [e]) rfl)
def F_X9_isAct (I : WI) (a1 : Int32) (a2 : Int32) : Option Int32 :=
  (if bz (F_X9_isActOf a1 a2 (I 33 0) (I 33 1)) = (F_X9_isActOf a1 a2 (I 33 0) (I 33 1)) then some (F_X9_isActOf a1 a2 (I 33 0) (I 33 1)) else none)
theorem V_X9_isAct  {I : WI} {L : WL} {a1 : Int32} {a2 : Int32}  {P : Int32 → Prop} {t : Tg} (hr : ∀ v, P v → t = (some (.int v), ly0, I, L, R0)) (kk : oP P (F_X9_isAct I a1 a2)) : V (zM x_X9_isAct 3 0 0 t) 0 [(0, .ref 33), (1, .int a1), (2, .int a2)] [] ly0 I L R0 0 0 :=
  V_iload_n (tat ok_X9_isAct_0 (i := 0) (q := 1) rfl rfl) 1 rfl rfl <|
    V_iload_n (tat ok_X9_isAct_0 (i := 1) (q := 2) rfl rfl) 2 rfl rfl <|
    V_aload_n (tat ok_X9_isAct_0 (i := 2) (q := 3) rfl rfl) 0 rfl rfl <|
    V_getI (tat ok_X9_isAct_0 (i := 3) (q := 6) rfl rfl) fk_X9_74 rfl <|
    V_aload_n (tat ok_X9_isAct_0 (i := 4) (q := 7) rfl rfl) 0 rfl rfl <|
    V_getI (tat ok_X9_isAct_0 (i := 5) (q := 10) rfl rfl) fk_X9_77 rfl <|
    V_cs4 (ct_X9_isActOf I L a1 a2 (I 33 0) (I 33 1) ) mo_X9_isActOf (tat ok_X9_isAct_0 (i := 6) (q := 13) rfl rfl) ml_X9_191 ⟨(Nat.le_of_ble_eq_true rfl), (Nat.le_of_ble_eq_true rfl)⟩ ⟨(Nat.le_of_ble_eq_true rfl), (Nat.le_of_ble_eq_true rfl)⟩ (Nat.le_of_ble_eq_true rfl) <|
    (if c1 : bz (F_X9_isActOf a1 a2 (I 33 0) (I 33 1)) = (F_X9_isActOf a1 a2 (I 33 0) (I 33 1)) then V_iret (tat ok_X9_isAct_0 (i := 7) (q := 14) rfl rfl) _ rfl (bz_nf c1).1 (hr (F_X9_isActOf a1 a2 (I 33 0) (I 33 1)) (jx (P := oP P) kk (if_pos c1))) ⟨(Nat.le_of_ble_eq_true rfl), (Nat.le_of_ble_eq_true rfl)⟩ else ((jx (P := oP P) kk (if_neg c1))).elim)
theorem ct_X9_isAct  (I : WI) (L : WL) (a1 : Int32) (a2 : Int32)  {v : Int32} (h : (F_X9_isAct I a1 a2) = some v) : Ct x_X9_isAct 3 [.ref 33, .int a1, .int a2] ly0 I L R0 0 0 (some (.int v), ly0, I, L, R0) :=
  Ct_of_V mo_X9_isAct.1 (Nat.le_of_ble_eq_true rfl) (V_X9_isAct (P := fun x => x = v)  (fun _ e => by rw [e]) (by rw [h]; exact rfl))
def F_X9_act (I : WI) (L : WL) (a1 : Int32) (a2 : Int32) : Option (Int32 × WL) :=
  (Option.bind (F_X9_isAct I a1 a2) (fun v1 => (if v1 = 0 then some ((-1), L) else some ((F_X9_many ((u2 L 33 2 ((L 33 2) ^^^ (F_X9_actSet I a1 a2))) 33 2)), (u2 L 33 2 ((L 33 2) ^^^ (F_X9_actSet I a1 a2)))))))
theorem V_X9_act  {I : WI} {L : WL} {a1 : Int32} {a2 : Int32}  {P : (Int32 × WL) → Prop} {t : Tg} (hr : ∀ v, P v → t = (some (.int (p1 v)), ly0, I, (p2 v), R0)) (kk : oP P (F_X9_act I L a1 a2)) : V (zM x_X9_act 4 0 0 t) 0 [(0, .ref 33), (1, .int a1), (2, .int a2)] [] ly0 I L R0 0 0 :=
  V_aload_n (tat ok_X9_act_0 (i := 0) (q := 1) rfl rfl) 0 rfl rfl <|
    V_iload_n (tat ok_X9_act_0 (i := 1) (q := 2) rfl rfl) 1 rfl rfl <|
    V_iload_n (tat ok_X9_act_0 (i := 2) (q := 3) rfl rfl) 2 rfl rfl <|
    oP_case (jx (P := oP P) kk rfl) (fun v1 e1 _ => V_cv2 (ct_X9_isAct I L a1 a2  e1) mo_X9_isAct (tat ok_X9_act_0 (i := 3) (q := 6) rfl rfl) ml_X9_214 rfl ⟨by decide, _, rfl, rfl⟩ ⟨(Nat.le_of_ble_eq_true rfl), (Nat.le_of_ble_eq_true rfl)⟩ ⟨(Nat.le_of_ble_eq_true rfl), (Nat.le_of_ble_eq_true rfl)⟩ (Nat.le_of_ble_eq_true rfl) <|
    V_if_ne (tat ok_X9_act_0 (i := 4) (q := 9) rfl rfl) rfl (fun c2 => V_aload_n (tat ok_X9_act_0 (i := 7) (q := 12) rfl rfl) 0 rfl rfl <|
    V_dup (tat ok_X9_act_0 (i := 8) (q := 13) rfl rfl) rfl <|
    V_getL (tat ok_X9_act_0 (i := 9) (q := 16) rfl rfl) fk_X9_80 rfl <|
    V_aload_n (tat ok_X9_act_0 (i := 10) (q := 17) rfl rfl) 0 rfl rfl <|
    V_iload_n (tat ok_X9_act_0 (i := 11) (q := 18) rfl rfl) 1 rfl rfl <|
    V_iload_n (tat ok_X9_act_0 (i := 12) (q := 19) rfl rfl) 2 rfl rfl <|
    V_cv2 (ct_X9_actSet I L a1 a2 ) mo_X9_actSet (tat ok_X9_act_0 (i := 13) (q := 22) rfl rfl) ml_X9_217 rfl ⟨by decide, _, rfl, rfl⟩ ⟨(Nat.le_of_ble_eq_true rfl), (Nat.le_of_ble_eq_true rfl)⟩ ⟨(Nat.le_of_ble_eq_true rfl), (Nat.le_of_ble_eq_true rfl)⟩ (Nat.le_of_ble_eq_true rfl) <|
    V_lxor (tat ok_X9_act_0 (i := 14) (q := 23) rfl rfl) <|
    V_putL (tat ok_X9_act_0 (i := 15) (q := 26) rfl rfl) fk_X9_80 rfl rfl <|
    V_aload_n (tat ok_X9_act_0 (i := 16) (q := 27) rfl rfl) 0 rfl rfl <|
    V_getL (tat ok_X9_act_0 (i := 17) (q := 30) rfl rfl) fk_X9_80 rfl <|
    V_cs1 (ct_X9_many I (u2 L 33 2 ((L 33 2) ^^^ (F_X9_actSet I a1 a2))) ((u2 L 33 2 ((L 33 2) ^^^ (F_X9_actSet I a1 a2))) 33 2) ) mo_X9_many (tat ok_X9_act_0 (i := 18) (q := 33) rfl rfl) ml_X9_220 ⟨(Nat.le_of_ble_eq_true rfl), (Nat.le_of_ble_eq_true rfl)⟩ ⟨(Nat.le_of_ble_eq_true rfl), (Nat.le_of_ble_eq_true rfl)⟩ (Nat.le_of_ble_eq_true rfl) <|
    V_iret (tat ok_X9_act_0 (i := 19) (q := 34) rfl rfl) _ rfl (nar_int _) (hr ((F_X9_many ((u2 L 33 2 ((L 33 2) ^^^ (F_X9_actSet I a1 a2))) 33 2)), (u2 L 33 2 ((L 33 2) ^^^ (F_X9_actSet I a1 a2)))) (jx (P := oP P) kk (Eq.trans (ob e1) (if_neg c2)))) ⟨(Nat.le_of_ble_eq_true rfl), (Nat.le_of_ble_eq_true rfl)⟩) (fun c2 => V_iconst (tat ok_X9_act_0 (i := 5) (q := 10) rfl rfl) ic_m1 <|
    V_iret (tat ok_X9_act_0 (i := 6) (q := 11) rfl rfl) _ rfl (nar_int _) (hr ((-1), L) (jx (P := oP P) kk (Eq.trans (ob e1) (if_pos c2)))) ⟨(Nat.le_of_ble_eq_true rfl), (Nat.le_of_ble_eq_true rfl)⟩))
theorem ct_X9_act  (I : WI) (L : WL) (a1 : Int32) (a2 : Int32)  {v : (Int32 × WL)} (h : (F_X9_act I L a1 a2) = some v) : Ct x_X9_act 4 [.ref 33, .int a1, .int a2] ly0 I L R0 0 0 (some (.int (p1 v)), ly0, I, (p2 v), R0) :=
  Ct_of_V mo_X9_act.1 (Nat.le_of_ble_eq_true rfl) (V_X9_act (P := fun x => x = v)  (fun _ e => by rw [e]) (by rw [h]; exact rfl))
def F_X9_turn_36 (I : WI) (L : WL) (a1 : Int32) (a2 : Int32) : (Int32 × WL) :=
  ((-1), L)
theorem V_X9_turn_36  {I : WI} {L : WL} {a1 : Int32} {a2 : Int32}  {P : (Int32 × WL) → Prop} {t : Tg} (hr : ∀ v, P v → t = (some (.int (p1 v)), ly0, I, (p2 v), R0)) (kk : P (F_X9_turn_36 I L a1 a2)) : V (zM x_X9_turn 3 0 0 t) 36 [(0, .ref 33), (1, .int a1), (2, .int a2)] [] ly0 I L R0 0 0 :=
  V_iconst (tat ok_X9_turn_0 (i := 24) (q := 37) rfl rfl) ic_m1 <|
    V_iret (tat ok_X9_turn_0 (i := 25) (q := 38) rfl rfl) _ rfl (nar_int _) (hr ((-1), L) (jx (P := P) kk rfl)) ⟨(Nat.le_of_ble_eq_true rfl), (Nat.le_of_ble_eq_true rfl)⟩
def F_X9_turn (I : WI) (L : WL) (a1 : Int32) (a2 : Int32) : (Int32 × WL) :=
  (if (F_X9_in (Int32.toInt64 a1) 0 (Int32.toInt64 ((1 <<< ((I 33 0) &&& 31)) - 1))) = 0 then (F_X9_turn_36 I L a1 a2) else (if (F_X9_in (Int32.toInt64 a2) 0 (Int32.toInt64 ((1 <<< ((I 33 1) &&& 31)) - 1))) = 0 then (F_X9_turn_36 I L a1 a2) else ((F_X9_many ((u2 L 33 2 ((L 33 2) ^^^ (F_X9_turnSet I a1 a2))) 33 2)), (u2 L 33 2 ((L 33 2) ^^^ (F_X9_turnSet I a1 a2))))))
theorem V_X9_turn  {I : WI} {L : WL} {a1 : Int32} {a2 : Int32}  {P : (Int32 × WL) → Prop} {t : Tg} (hr : ∀ v, P v → t = (some (.int (p1 v)), ly0, I, (p2 v), R0)) (kk : P (F_X9_turn I L a1 a2)) : V (zM x_X9_turn 3 0 0 t) 0 [(0, .ref 33), (1, .int a1), (2, .int a2)] [] ly0 I L R0 0 0 :=
  V_iload_n (tat ok_X9_turn_0 (i := 0) (q := 1) rfl rfl) 1 rfl rfl <|
    V_i2l (tat ok_X9_turn_0 (i := 1) (q := 2) rfl rfl) <|
    V_lconst (v := 0) (tat ok_X9_turn_0 (i := 2) (q := 3) rfl rfl) rfl <|
    V_iconst (tat ok_X9_turn_0 (i := 3) (q := 4) rfl rfl) ic_1 <|
    V_aload_n (tat ok_X9_turn_0 (i := 4) (q := 5) rfl rfl) 0 rfl rfl <|
    V_getI (tat ok_X9_turn_0 (i := 5) (q := 8) rfl rfl) fk_X9_74 rfl <|
    V_ishl (tat ok_X9_turn_0 (i := 6) (q := 9) rfl rfl) <|
    V_iconst (tat ok_X9_turn_0 (i := 7) (q := 10) rfl rfl) ic_1 <|
    V_isub (tat ok_X9_turn_0 (i := 8) (q := 11) rfl rfl) <|
    V_i2l (tat ok_X9_turn_0 (i := 9) (q := 12) rfl rfl) <|
    V_cs3 (ct_X9_in I L (Int32.toInt64 a1) 0 (Int32.toInt64 ((1 <<< ((I 33 0) &&& 31)) - 1)) ) mo_X9_in (tat ok_X9_turn_0 (i := 10) (q := 15) rfl rfl) ml_X9_97 ⟨(Nat.le_of_ble_eq_true rfl), (Nat.le_of_ble_eq_true rfl)⟩ ⟨(Nat.le_of_ble_eq_true rfl), (Nat.le_of_ble_eq_true rfl)⟩ (Nat.le_of_ble_eq_true rfl) <|
    V_if_eq (tat ok_X9_turn_0 (i := 11) (q := 18) rfl rfl) rfl (fun c1 => V_X9_turn_36  hr (jx (P := P) kk (if_pos c1))) (fun c1 => V_iload_n (tat ok_X9_turn_0 (i := 12) (q := 19) rfl rfl) 2 rfl rfl <|
    V_i2l (tat ok_X9_turn_0 (i := 13) (q := 20) rfl rfl) <|
    V_lconst (v := 0) (tat ok_X9_turn_0 (i := 14) (q := 21) rfl rfl) rfl <|
    V_iconst (tat ok_X9_turn_0 (i := 15) (q := 22) rfl rfl) ic_1 <|
    V_aload_n (tat ok_X9_turn_0 (i := 16) (q := 23) rfl rfl) 0 rfl rfl <|
    V_getI (tat ok_X9_turn_0 (i := 17) (q := 26) rfl rfl) fk_X9_77 rfl <|
    V_ishl (tat ok_X9_turn_0 (i := 18) (q := 27) rfl rfl) <|
    V_iconst (tat ok_X9_turn_0 (i := 19) (q := 28) rfl rfl) ic_1 <|
    V_isub (tat ok_X9_turn_0 (i := 20) (q := 29) rfl rfl) <|
    V_i2l (tat ok_X9_turn_0 (i := 21) (q := 30) rfl rfl) <|
    V_cs3 (ct_X9_in I L (Int32.toInt64 a2) 0 (Int32.toInt64 ((1 <<< ((I 33 1) &&& 31)) - 1)) ) mo_X9_in (tat ok_X9_turn_0 (i := 22) (q := 33) rfl rfl) ml_X9_97 ⟨(Nat.le_of_ble_eq_true rfl), (Nat.le_of_ble_eq_true rfl)⟩ ⟨(Nat.le_of_ble_eq_true rfl), (Nat.le_of_ble_eq_true rfl)⟩ (Nat.le_of_ble_eq_true rfl) <|
    V_if_ne (tat ok_X9_turn_0 (i := 23) (q := 36) rfl rfl) rfl (fun c2 => V_aload_n (tat ok_X9_turn_0 (i := 26) (q := 39) rfl rfl) 0 rfl rfl <|
    V_dup (tat ok_X9_turn_0 (i := 27) (q := 40) rfl rfl) rfl <|
    V_getL (tat ok_X9_turn_0 (i := 28) (q := 43) rfl rfl) fk_X9_80 rfl <|
    V_aload_n (tat ok_X9_turn_0 (i := 29) (q := 44) rfl rfl) 0 rfl rfl <|
    V_iload_n (tat ok_X9_turn_0 (i := 30) (q := 45) rfl rfl) 1 rfl rfl <|
    V_iload_n (tat ok_X9_turn_0 (i := 31) (q := 46) rfl rfl) 2 rfl rfl <|
    V_cv2 (ct_X9_turnSet I L a1 a2 ) mo_X9_turnSet (tat ok_X9_turn_0 (i := 32) (q := 49) rfl rfl) ml_X9_224 rfl ⟨by decide, _, rfl, rfl⟩ ⟨(Nat.le_of_ble_eq_true rfl), (Nat.le_of_ble_eq_true rfl)⟩ ⟨(Nat.le_of_ble_eq_true rfl), (Nat.le_of_ble_eq_true rfl)⟩ (Nat.le_of_ble_eq_true rfl) <|
    V_lxor (tat ok_X9_turn_0 (i := 33) (q := 50) rfl rfl) <|
    V_putL (tat ok_X9_turn_0 (i := 34) (q := 53) rfl rfl) fk_X9_80 rfl rfl <|
    V_aload_n (tat ok_X9_turn_0 (i := 35) (q := 54) rfl rfl) 0 rfl rfl <|
    V_getL (tat ok_X9_turn_0 (i := 36) (q := 57) rfl rfl) fk_X9_80 rfl <|
    V_cs1 (ct_X9_many I (u2 L 33 2 ((L 33 2) ^^^ (F_X9_turnSet I a1 a2))) ((u2 L 33 2 ((L 33 2) ^^^ (F_X9_turnSet I a1 a2))) 33 2) ) mo_X9_many (tat ok_X9_turn_0 (i := 37) (q := 60) rfl rfl) ml_X9_220 ⟨(Nat.le_of_ble_eq_true rfl), (Nat.le_of_ble_eq_true rfl)⟩ ⟨(Nat.le_of_ble_eq_true rfl), (Nat.le_of_ble_eq_true rfl)⟩ (Nat.le_of_ble_eq_true rfl) <|
    V_iret (tat ok_X9_turn_0 (i := 38) (q := 61) rfl rfl) _ rfl (nar_int _) (hr ((F_X9_many ((u2 L 33 2 ((L 33 2) ^^^ (F_X9_turnSet I a1 a2))) 33 2)), (u2 L 33 2 ((L 33 2) ^^^ (F_X9_turnSet I a1 a2)))) (jx (P := P) kk (Eq.trans (if_neg c1) (if_neg c2)))) ⟨(Nat.le_of_ble_eq_true rfl), (Nat.le_of_ble_eq_true rfl)⟩) (fun c2 => V_X9_turn_36  hr (jx (P := P) kk (Eq.trans (if_neg c1) (if_pos c2)))))
