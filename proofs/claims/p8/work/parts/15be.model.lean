def F_X9_readLine_91 (I : WI) (L : WL)  (a1 : Int32) (s0 : Int32) : Option (WI × WL) :=
  (Option.bind (F_X9_next (F_X9_needs I s0 4)) (fun v10 => (if (v10 33 26) ≤ 0 then (if a1 = 12 then (Option.bind (F_X9_readDay v10) (fun v13 => (F_X9_readLine_191 v13 L))) else (Option.bind (F_X9_readRows v10 L) (fun v17 => (if a1 = 10 then (F_X9_readLine_191 (u2 (u2 (u2 (p1 v17) 33 16 1) 33 10 ((u2 (p1 v17) 33 16 1) 33 28)) 33 11 ((u2 (u2 (p1 v17) 33 16 1) 33 10 ((u2 (p1 v17) 33 16 1) 33 28)) 33 29)) (u2 (p2 v17) 33 12 ((p2 v17) 33 30))) else (F_X9_readLine_191 (u2 (u2 (u2 (p1 v17) 33 17 1) 33 13 ((u2 (p1 v17) 33 17 1) 33 28)) 33 14 ((u2 (u2 (p1 v17) 33 17 1) 33 13 ((u2 (p1 v17) 33 17 1) 33 28)) 33 29)) (u2 (p2 v17) 33 15 ((p2 v17) 33 30))))))) else some (v10, L))))
theorem V_X9_readLine_91  {I : WI} {L : WL}  {a1 : Int32} {s0 : Int32} {P : (WI × WL) → Prop} {t : Tg} (hs0 : bz s0 = s0) (hr : ∀ v, P v → t = (none, ly0, (p1 v), (p2 v), R0)) (kk : oP P (F_X9_readLine_91 I L a1 s0)) : V (zM x_X9_readLine 6 0 0 t) 91 [(0, .ref 33), (1, .int a1)] [.int s0, .ref 33] ly0 I L R0 0 0 :=
  V_iconst (tat ok_X9_readLine_1 (i := 7) (q := 92) rfl rfl) ic_4 <|
    V_cv2v (ct_X9_needs I L s0 4 ) mo_X9_needs (tat ok_X9_readLine_1 (i := 8) (q := 95) rfl rfl) ml_X9_138 rfl ⟨by decide, _, rfl, rfl⟩ ⟨(Nat.le_of_ble_eq_true rfl), (Nat.le_of_ble_eq_true rfl)⟩ ⟨(Nat.le_of_ble_eq_true rfl), (Nat.le_of_ble_eq_true rfl)⟩ (Nat.le_of_ble_eq_true rfl) <|
    V_aload_n (tat ok_X9_readLine_1 (i := 9) (q := 96) rfl rfl) 0 rfl rfl <|
    oP_case (jx (P := oP P) kk rfl) (fun v10 e10 _ => V_cv0v (ct_X9_next (F_X9_needs I s0 4) L   e10) mo_X9_next (tat ok_X9_readLine_1 (i := 10) (q := 99) rfl rfl) ml_X9_159 rfl ⟨by decide, _, rfl, rfl⟩ ⟨(Nat.le_of_ble_eq_true rfl), (Nat.le_of_ble_eq_true rfl)⟩ ⟨(Nat.le_of_ble_eq_true rfl), (Nat.le_of_ble_eq_true rfl)⟩ (Nat.le_of_ble_eq_true rfl) <|
    V_aload_n (tat ok_X9_readLine_1 (i := 11) (q := 100) rfl rfl) 0 rfl rfl <|
    V_getI (tat ok_X9_readLine_1 (i := 12) (q := 103) rfl rfl) fk_X9_101 rfl <|
    V_if_le (tat ok_X9_readLine_1 (i := 13) (q := 106) rfl rfl) rfl (fun c11 => V_iload_n (tat ok_X9_readLine_1 (i := 15) (q := 108) rfl rfl) 1 rfl rfl <|
    V_bipush (tat ok_X9_readLine_1 (i := 16) (q := 110) rfl rfl) bp_12 <|
    V_icmp_ne (tat ok_X9_readLine_1 (i := 17) (q := 113) rfl rfl) rfl (fun c12 => V_aload_n (tat ok_X9_readLine_1 (i := 21) (q := 121) rfl rfl) 0 rfl rfl <|
    oP_case (jx (P := oP P) kk (Eq.trans (ob e10) (Eq.trans (if_pos c11) (if_neg c12)))) (fun v17 e17 _ => V_cv0v (ct_X9_readRows v10 L   e17) mo_X9_readRows (tat ok_X9_readLine_1 (i := 22) (q := 124) rfl rfl) ml_X9_180 rfl ⟨by decide, _, rfl, rfl⟩ ⟨(Nat.le_of_ble_eq_true rfl), (Nat.le_of_ble_eq_true rfl)⟩ ⟨(Nat.le_of_ble_eq_true rfl), (Nat.le_of_ble_eq_true rfl)⟩ (Nat.le_of_ble_eq_true rfl) <|
    V_iload_n (tat ok_X9_readLine_1 (i := 23) (q := 125) rfl rfl) 1 rfl rfl <|
    V_bipush (tat ok_X9_readLine_1 (i := 24) (q := 127) rfl rfl) bp_10 <|
    V_icmp_ne (tat ok_X9_readLine_1 (i := 25) (q := 130) rfl rfl) rfl (fun c18 => V_aload_n (tat ok_X9_readLine_2 (i := 2) (q := 163) rfl rfl) 0 rfl rfl <|
    V_iconst (tat ok_X9_readLine_2 (i := 3) (q := 164) rfl rfl) ic_1 <|
    V_putZ (tat ok_X9_readLine_2 (i := 4) (q := 167) rfl rfl) fk_X9_68 rfl rfl rfl <|
    V_aload_n (tat ok_X9_readLine_2 (i := 5) (q := 168) rfl rfl) 0 rfl rfl <|
    V_aload_n (tat ok_X9_readLine_2 (i := 6) (q := 169) rfl rfl) 0 rfl rfl <|
    V_getI (tat ok_X9_readLine_2 (i := 7) (q := 172) rfl rfl) fk_X9_142 rfl <|
    V_putI (tat ok_X9_readLine_2 (i := 8) (q := 175) rfl rfl) fk_X9_183 rfl rfl <|
    V_aload_n (tat ok_X9_readLine_2 (i := 9) (q := 176) rfl rfl) 0 rfl rfl <|
    V_aload_n (tat ok_X9_readLine_2 (i := 10) (q := 177) rfl rfl) 0 rfl rfl <|
    V_getI (tat ok_X9_readLine_2 (i := 11) (q := 180) rfl rfl) fk_X9_145 rfl <|
    V_putI (tat ok_X9_readLine_2 (i := 12) (q := 183) rfl rfl) fk_X9_186 rfl rfl <|
    V_aload_n (tat ok_X9_readLine_2 (i := 13) (q := 184) rfl rfl) 0 rfl rfl <|
    V_aload_n (tat ok_X9_readLine_2 (i := 14) (q := 185) rfl rfl) 0 rfl rfl <|
    V_getL (tat ok_X9_readLine_2 (i := 15) (q := 188) rfl rfl) fk_X9_148 rfl <|
    V_putL (tat ok_X9_readLine_2 (i := 16) (q := 191) rfl rfl) fk_X9_61 rfl rfl <|
    V_pick [0] rfl (V_X9_readLine_191  hr (jx (P := oP P) kk (Eq.trans (ob e10) (Eq.trans (if_pos c11) (Eq.trans (if_neg c12) (Eq.trans (ob e17) (if_neg c18)))))))) (fun c18 => V_aload_n (tat ok_X9_readLine_1 (i := 26) (q := 131) rfl rfl) 0 rfl rfl <|
    V_iconst (tat ok_X9_readLine_1 (i := 27) (q := 132) rfl rfl) ic_1 <|
    V_putZ (tat ok_X9_readLine_1 (i := 28) (q := 135) rfl rfl) fk_X9_64 rfl rfl rfl <|
    V_aload_n (tat ok_X9_readLine_1 (i := 29) (q := 136) rfl rfl) 0 rfl rfl <|
    V_aload_n (tat ok_X9_readLine_1 (i := 30) (q := 137) rfl rfl) 0 rfl rfl <|
    V_getI (tat ok_X9_readLine_1 (i := 31) (q := 140) rfl rfl) fk_X9_142 rfl <|
    V_putI (tat ok_X9_readLine_1 (i := 32) (q := 143) rfl rfl) fk_X9_50 rfl rfl <|
    V_aload_n (tat ok_X9_readLine_1 (i := 33) (q := 144) rfl rfl) 0 rfl rfl <|
    V_aload_n (tat ok_X9_readLine_1 (i := 34) (q := 145) rfl rfl) 0 rfl rfl <|
    V_getI (tat ok_X9_readLine_1 (i := 35) (q := 148) rfl rfl) fk_X9_145 rfl <|
    V_putI (tat ok_X9_readLine_1 (i := 36) (q := 151) rfl rfl) fk_X9_54 rfl rfl <|
    V_aload_n (tat ok_X9_readLine_1 (i := 37) (q := 152) rfl rfl) 0 rfl rfl <|
    V_aload_n (tat ok_X9_readLine_1 (i := 38) (q := 153) rfl rfl) 0 rfl rfl <|
    V_getL (tat ok_X9_readLine_1 (i := 39) (q := 156) rfl rfl) fk_X9_148 rfl <|
    V_putL (tat ok_X9_readLine_2 (i := 0) (q := 159) rfl rfl) fk_X9_57 rfl rfl <|
    V_goto (tat ok_X9_readLine_2 (i := 1) (q := 162) rfl rfl) rfl <|
    V_pick [0] rfl (V_X9_readLine_191  hr (jx (P := oP P) kk (Eq.trans (ob e10) (Eq.trans (if_pos c11) (Eq.trans (if_neg c12) (Eq.trans (ob e17) (if_pos c18)))))))))) (fun c12 => V_aload_n (tat ok_X9_readLine_1 (i := 18) (q := 114) rfl rfl) 0 rfl rfl <|
    oP_case (jx (P := oP P) kk (Eq.trans (ob e10) (Eq.trans (if_pos c11) (if_pos c12)))) (fun v13 e13 _ => V_cv0v (ct_X9_readDay v10 L   e13) mo_X9_readDay (tat ok_X9_readLine_1 (i := 19) (q := 117) rfl rfl) ml_X9_177 rfl ⟨by decide, _, rfl, rfl⟩ ⟨(Nat.le_of_ble_eq_true rfl), (Nat.le_of_ble_eq_true rfl)⟩ ⟨(Nat.le_of_ble_eq_true rfl), (Nat.le_of_ble_eq_true rfl)⟩ (Nat.le_of_ble_eq_true rfl) <|
    V_goto (tat ok_X9_readLine_1 (i := 20) (q := 120) rfl rfl) rfl <|
    V_pick [0] rfl (V_X9_readLine_191  hr (jx (P := oP P) kk (Eq.trans (ob e10) (Eq.trans (if_pos c11) (Eq.trans (if_pos c12) (ob e13))))))))) (fun c11 => V_vret (tat ok_X9_readLine_1 (i := 14) (q := 107) rfl rfl) rfl (hr (v10, L) (jx (P := oP P) kk (Eq.trans (ob e10) (if_neg c11)))) ⟨(Nat.le_of_ble_eq_true rfl), (Nat.le_of_ble_eq_true rfl)⟩))
def F_X9_readLine_86 (I : WI) (L : WL)  (a1 : Int32) : Option (WI × WL) :=
  (F_X9_readLine_91 I L a1 1)
theorem V_X9_readLine_86  {I : WI} {L : WL}  {a1 : Int32} {P : (WI × WL) → Prop} {t : Tg} (hr : ∀ v, P v → t = (none, ly0, (p1 v), (p2 v), R0)) (kk : oP P (F_X9_readLine_86 I L a1)) : V (zM x_X9_readLine 6 0 0 t) 86 [(0, .ref 33), (1, .int a1)] [.ref 33] ly0 I L R0 0 0 :=
  V_iconst (tat ok_X9_readLine_1 (i := 4) (q := 87) rfl rfl) ic_1 <|
    V_goto (tat ok_X9_readLine_1 (i := 5) (q := 90) rfl rfl) rfl <|
    V_X9_readLine_91 rfl hr (jx (P := oP P) kk rfl)
def F_X9_readLine_90 (I : WI) (L : WL)  (a1 : Int32) : Option (WI × WL) :=
  (F_X9_readLine_91 I L a1 0)
theorem V_X9_readLine_90  {I : WI} {L : WL}  {a1 : Int32} {P : (WI × WL) → Prop} {t : Tg} (hr : ∀ v, P v → t = (none, ly0, (p1 v), (p2 v), R0)) (kk : oP P (F_X9_readLine_90 I L a1)) : V (zM x_X9_readLine 6 0 0 t) 90 [(0, .ref 33), (1, .int a1)] [.ref 33] ly0 I L R0 0 0 :=
  V_iconst (tat ok_X9_readLine_1 (i := 6) (q := 91) rfl rfl) ic_0 <|
    V_X9_readLine_91 rfl hr (jx (P := oP P) kk rfl)
def F_X9_readLine_73 (I : WI) (L : WL)  (a1 : Int32) : Option (WI × WL) :=
  (if a1 = 11 then (if (bz (I 33 17)) = 0 then (F_X9_readLine_86 I L a1) else (F_X9_readLine_90 I L a1)) else (F_X9_readLine_86 I L a1))
theorem V_X9_readLine_73  {I : WI} {L : WL}  {a1 : Int32} {P : (WI × WL) → Prop} {t : Tg} (hr : ∀ v, P v → t = (none, ly0, (p1 v), (p2 v), R0)) (kk : oP P (F_X9_readLine_73 I L a1)) : V (zM x_X9_readLine 6 0 0 t) 73 [(0, .ref 33), (1, .int a1)] [.ref 33] ly0 I L R0 0 0 :=
  V_iload_n (tat ok_X9_readLine_0 (i := 38) (q := 74) rfl rfl) 1 rfl rfl <|
    V_bipush (tat ok_X9_readLine_0 (i := 39) (q := 76) rfl rfl) bp_11 <|
    V_icmp_ne (tat ok_X9_readLine_1 (i := 0) (q := 79) rfl rfl) rfl (fun c8 => V_X9_readLine_86  hr (jx (P := oP P) kk (if_neg c8))) (fun c8 => V_aload_n (tat ok_X9_readLine_1 (i := 1) (q := 80) rfl rfl) 0 rfl rfl <|
    V_getZ (tat ok_X9_readLine_1 (i := 2) (q := 83) rfl rfl) fk_X9_68 rfl <|
    V_if_ne (tat ok_X9_readLine_1 (i := 3) (q := 86) rfl rfl) rfl (fun c9 => V_X9_readLine_90  hr (jx (P := oP P) kk (Eq.trans (if_pos c8) (if_neg c9)))) (fun c9 => V_X9_readLine_86  hr (jx (P := oP P) kk (Eq.trans (if_pos c8) (if_pos c9)))))
def F_X9_readLine_55 (I : WI) (L : WL)  (a1 : Int32) (s0 : Int32) : Option (WI × WL) :=
  (if a1 = 10 then (if (bz ((F_X9_needs I s0 5) 33 16)) = 0 then (F_X9_readLine_73 (F_X9_needs I s0 5) L a1) else (F_X9_readLine_90 (F_X9_needs I s0 5) L a1)) else (F_X9_readLine_73 (F_X9_needs I s0 5) L a1))
theorem V_X9_readLine_55  {I : WI} {L : WL}  {a1 : Int32} {s0 : Int32} {P : (WI × WL) → Prop} {t : Tg} (hs0 : bz s0 = s0) (hr : ∀ v, P v → t = (none, ly0, (p1 v), (p2 v), R0)) (kk : oP P (F_X9_readLine_55 I L a1 s0)) : V (zM x_X9_readLine 6 0 0 t) 55 [(0, .ref 33), (1, .int a1)] [.int s0, .ref 33] ly0 I L R0 0 0 :=
  V_iconst (tat ok_X9_readLine_0 (i := 29) (q := 56) rfl rfl) ic_5 <|
    V_cv2v (ct_X9_needs I L s0 5 ) mo_X9_needs (tat ok_X9_readLine_0 (i := 30) (q := 59) rfl rfl) ml_X9_138 rfl ⟨by decide, _, rfl, rfl⟩ ⟨(Nat.le_of_ble_eq_true rfl), (Nat.le_of_ble_eq_true rfl)⟩ ⟨(Nat.le_of_ble_eq_true rfl), (Nat.le_of_ble_eq_true rfl)⟩ (Nat.le_of_ble_eq_true rfl) <|
    V_aload_n (tat ok_X9_readLine_0 (i := 31) (q := 60) rfl rfl) 0 rfl rfl <|
    V_iload_n (tat ok_X9_readLine_0 (i := 32) (q := 61) rfl rfl) 1 rfl rfl <|
    V_bipush (tat ok_X9_readLine_0 (i := 33) (q := 63) rfl rfl) bp_10 <|
    V_icmp_ne (tat ok_X9_readLine_0 (i := 34) (q := 66) rfl rfl) rfl (fun c6 => V_X9_readLine_73  hr (jx (P := oP P) kk (if_neg c6))) (fun c6 => V_aload_n (tat ok_X9_readLine_0 (i := 35) (q := 67) rfl rfl) 0 rfl rfl <|
    V_getZ (tat ok_X9_readLine_0 (i := 36) (q := 70) rfl rfl) fk_X9_64 rfl <|
    V_if_ne (tat ok_X9_readLine_0 (i := 37) (q := 73) rfl rfl) rfl (fun c7 => V_X9_readLine_90  hr (jx (P := oP P) kk (Eq.trans (if_pos c6) (if_neg c7)))) (fun c7 => V_X9_readLine_73  hr (jx (P := oP P) kk (Eq.trans (if_pos c6) (if_pos c7)))))
def F_X9_readLine_50 (I : WI) (L : WL)  (a1 : Int32) : Option (WI × WL) :=
  (F_X9_readLine_55 I L a1 1)
theorem V_X9_readLine_50  {I : WI} {L : WL}  {a1 : Int32} {P : (WI × WL) → Prop} {t : Tg} (hr : ∀ v, P v → t = (none, ly0, (p1 v), (p2 v), R0)) (kk : oP P (F_X9_readLine_50 I L a1)) : V (zM x_X9_readLine 6 0 0 t) 50 [(0, .ref 33), (1, .int a1)] [.ref 33] ly0 I L R0 0 0 :=
  V_iconst (tat ok_X9_readLine_0 (i := 26) (q := 51) rfl rfl) ic_1 <|
    V_goto (tat ok_X9_readLine_0 (i := 27) (q := 54) rfl rfl) rfl <|
    V_X9_readLine_55 rfl hr (jx (P := oP P) kk rfl)
def F_X9_readLine_30 (I : WI) (L : WL)  (a1 : Int32) (s0 : Int32) : Option (WI × WL) :=
  (if a1 = 12 then (if 12 ≤ ((F_X9_needs I s0 2) 33 18) then (F_X9_readLine_55 (F_X9_needs I s0 2) L a1 0) else (F_X9_readLine_50 (F_X9_needs I s0 2) L a1)) else (F_X9_readLine_50 (F_X9_needs I s0 2) L a1))
theorem V_X9_readLine_30  {I : WI} {L : WL}  {a1 : Int32} {s0 : Int32} {P : (WI × WL) → Prop} {t : Tg} (hs0 : bz s0 = s0) (hr : ∀ v, P v → t = (none, ly0, (p1 v), (p2 v), R0)) (kk : oP P (F_X9_readLine_30 I L a1 s0)) : V (zM x_X9_readLine 6 0 0 t) 30 [(0, .ref 33), (1, .int a1)] [.int s0, .ref 33] ly0 I L R0 0 0 :=
  V_iconst (tat ok_X9_readLine_0 (i := 16) (q := 31) rfl rfl) ic_2 <|
    V_cv2v (ct_X9_needs I L s0 2 ) mo_X9_needs (tat ok_X9_readLine_0 (i := 17) (q := 34) rfl rfl) ml_X9_138 rfl ⟨by decide, _, rfl, rfl⟩ ⟨(Nat.le_of_ble_eq_true rfl), (Nat.le_of_ble_eq_true rfl)⟩ ⟨(Nat.le_of_ble_eq_true rfl), (Nat.le_of_ble_eq_true rfl)⟩ (Nat.le_of_ble_eq_true rfl) <|
    V_aload_n (tat ok_X9_readLine_0 (i := 18) (q := 35) rfl rfl) 0 rfl rfl <|
    V_iload_n (tat ok_X9_readLine_0 (i := 19) (q := 36) rfl rfl) 1 rfl rfl <|
    V_bipush (tat ok_X9_readLine_0 (i := 20) (q := 38) rfl rfl) bp_12 <|
    V_icmp_ne (tat ok_X9_readLine_0 (i := 21) (q := 41) rfl rfl) rfl (fun c4 => V_X9_readLine_50  hr (jx (P := oP P) kk (if_neg c4))) (fun c4 => V_aload_n (tat ok_X9_readLine_0 (i := 22) (q := 42) rfl rfl) 0 rfl rfl <|
    V_getI (tat ok_X9_readLine_0 (i := 23) (q := 45) rfl rfl) fk_X9_71 rfl <|
    V_bipush (tat ok_X9_readLine_0 (i := 24) (q := 47) rfl rfl) bp_12 <|
    V_icmp_ge (tat ok_X9_readLine_0 (i := 25) (q := 50) rfl rfl) rfl (fun c5 => V_iconst (tat ok_X9_readLine_0 (i := 28) (q := 55) rfl rfl) ic_0 <|
    V_X9_readLine_55 rfl hr (jx (P := oP P) kk (Eq.trans (if_pos c4) (if_pos c5)))) (fun c5 => V_X9_readLine_50  hr (jx (P := oP P) kk (Eq.trans (if_pos c4) (if_neg c5)))))
def F_X9_readLine_17 (I : WI) (L : WL)  (s0 : Int32) : Option (WI × WL) :=
  (if s0 = (-4) then (F_X9_readLine_30 I L s0 0) else (F_X9_readLine_30 I L s0 1))
theorem V_X9_readLine_17  {I : WI} {L : WL}  {s0 : Int32} {P : (WI × WL) → Prop} {t : Tg} (hr : ∀ v, P v → t = (none, ly0, (p1 v), (p2 v), R0)) (kk : oP P (F_X9_readLine_17 I L s0)) : V (zM x_X9_readLine 6 0 0 t) 17 [(0, .ref 33)] [.int s0] ly0 I L R0 0 0 :=
  V_istore_n (lv' := [(1, .int s0), (0, .ref 33)]) (tat ok_X9_readLine_0 (i := 8) (q := 18) rfl rfl) rfl (Nat.le_of_ble_eq_true rfl) rfl <|
    V_aload_n (tat ok_X9_readLine_0 (i := 9) (q := 19) rfl rfl) 1 rfl rfl <|
    V_iload_n (tat ok_X9_readLine_0 (i := 10) (q := 20) rfl rfl) 0 rfl rfl <|
    V_bipush (tat ok_X9_readLine_0 (i := 11) (q := 22) rfl rfl) bp_m4 <|
    V_icmp_eq (tat ok_X9_readLine_0 (i := 12) (q := 25) rfl rfl) rfl (fun c3 => V_iconst (tat ok_X9_readLine_0 (i := 15) (q := 30) rfl rfl) ic_0 <|
    V_pick [1, 0] rfl (V_X9_readLine_30 rfl hr (jx (P := oP P) kk (if_pos c3)))) (fun c3 => V_iconst (tat ok_X9_readLine_0 (i := 13) (q := 26) rfl rfl) ic_1 <|
    V_goto (tat ok_X9_readLine_0 (i := 14) (q := 29) rfl rfl) rfl <|
    V_pick [1, 0] rfl (V_X9_readLine_30 rfl hr (jx (P := oP P) kk (if_neg c3))))
def F_X9_readLine (I : WI) (L : WL) : Option (WI × WL) :=
  (if (I 33 24) = 1 then (Option.bind (F_X9_lineNow I) (fun v2 => (F_X9_readLine_17 I L v2))) else (F_X9_readLine_17 I L (-4)))
