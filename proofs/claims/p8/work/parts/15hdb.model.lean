theorem V_X9_isSheet_29  {I : WI} {L : WL} {a0 : Int32} {a1 : Int32} {s0 : Int32} {P : Int32 → Prop} {t : Tg} (hs0 : bz s0 = s0) (hr : ∀ v, P v → t = (some (.int v), ly0, I, L, R0)) (kk : P (F_X9_isSheet_29 a0 a1 s0)) : V (zM x_X9_isSheet 2 0 0 t) 29 [(0, .int a0), (1, .int a1)] [.int s0] ly0 I L R0 0 0 :=
  V_iret (tat ok_X9_isSheet_0 (i := 15) (q := 30) rfl rfl) _ rfl (bz_nf hs0).1 (hr s0 (jx (P := P) kk rfl)) ⟨(Nat.le_of_ble_eq_true rfl), (Nat.le_of_ble_eq_true rfl)⟩
def F_X9_isSheet_28 (a0 : Int32) (a1 : Int32) : Int32 :=
  (F_X9_isSheet_29 a0 a1 0)
