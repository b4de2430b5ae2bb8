theorem V_X9_isSheet_28  {I : WI} {L : WL} {a0 : Int32} {a1 : Int32}  {P : Int32 → Prop} {t : Tg} (hr : ∀ v, P v → t = (some (.int v), ly0, I, L, R0)) (kk : P (F_X9_isSheet_28 a0 a1)) : V (zM x_X9_isSheet 2 0 0 t) 28 [(0, .int a0), (1, .int a1)] [] ly0 I L R0 0 0 :=
  V_iconst (tat ok_X9_isSheet_0 (i := 14) (q := 29) rfl rfl) ic_0 <|
    V_X9_isSheet_29 rfl hr (jx (P := P) kk rfl)
def F_X9_isSheet (a0 : Int32) (a1 : Int32) : Int32 :=
  (if (F_X9_in (Int32.toInt64 a0) 0 3) = 0 then (F_X9_isSheet_28 a0 a1) else (if (F_X9_in (Int32.toInt64 a1) 0 2) = 0 then (F_X9_isSheet_28 a0 a1) else (F_X9_isSheet_29 a0 a1 1)))
