def yp (n : Nat) : Ly := ly0.take n
/-- from n on nothing is there yet -/
def Zr (n : Nat) (I : WI) (L : WL) (R : WR) : Prop := ∀ m, n ≤ m → ∀ j, I m j = 0 ∧ L m j = 0 ∧ R m j = none
theorem Zr.at {n : Nat} {I : WI} {L : WL} {R : WR} (h : Zr n I L R) : ∀ j, I n j = 0 ∧ L n j = 0 ∧ R n j = none := h n (Nat.le_refl n)
theorem Zr.up {n m : Nat} {I : WI} {L : WL} {R : WR} (h : Zr n I L R) (hm : n ≤ m) : Zr m I L R := fun a ha j => h a (Nat.le_trans hm ha) j
theorem Zr.i {n k j : Nat} {x : Int32} {I : WI} {L : WL} {R : WR} (h : Zr n I L R) (hk : k < n) : Zr n (u2 I k j x) L R := fun a ha b => by
  have : a ≠ k := by omega
  rw [u2_ne this]
  exact h a ha b
theorem Zr.r {n k j : Nat} {x : Option Nat} {I : WI} {L : WL} {R : WR} (h : Zr n I L R) (hk : k < n) : Zr n I L (u2 R k j x) := fun a ha b => by
  have : a ≠ k := by omega
  rw [u2_ne this]
  exact h a ha b
section Mk
variable {Z : Cx} {pc q : Nat} {lv : List (Nat × Value)} {st : List Value} {y : Ly} {I : WI} {L : WL} {R : WR} {kc ks : Nat}
theorem V_newN {ci n idx : Nat} {C : String} {T : u_T} {ty : Nat → FieldType} (m : Nat) (y1 : Ly) (hm : y.length = m) (he : y ++ [(ci, n)] = y1) (cf : CF ci C T n ty) (h : At Z.1.2.1 pc (.new idx) 3 q) (hcl : Cond.classLink Z.1.1.cls idx C ∈ gw) (hin : Cond.instantiable C n ∈ gw) (hini : Cond.initialized C ∈ gw) (hc : kc + 1 ≤ Z.2.1.cells ∧ ks + n ≤ Z.2.1.slots) (hy : m < 1000) (h0 : Zr m I L R)
    (hty : ∀ j, j < n → ty j ≠ .char ∧ ty j ≠ .byte ∧ ty j ≠ .short ∧ ty j ≠ .float ∧ ty j ≠ .double)
    (k : V Z q lv (.ref m :: st) y1 I L R (kc + 1) (ks + n)) : V Z pc lv st y I L R kc ks := by
  subst hm
  subst he
  exact V_new cf h hcl hin hini hc hy h0.at hty k
theorem V_newaN {N' cc : Nat} {n : Int32} {atype : ArrayType} {ty : FieldType} (m : Nat) (y1 : Ly) (hm : y.length = m) (he : y ++ [(cc, N')] = y1) (hty : newarray.typeOf atype = ty) (h : At Z.1.2.1 pc (.newarray atype) 2 q) (harr : Cond.arrayClass ty ∈ gw) (hn : ¬ n < 0) (hN : n.toNatClampNeg = N') (hb : N' * componentBytes ty ≤ 536870912) (hc : kc + 1 ≤ Z.2.1.cells ∧ ks + N' ≤ Z.2.1.slots) (hy : m < 1000)
    (hcc : (cc = 100 ∧ ty = .int) ∨ (cc = 101 ∧ ty = .long) ∨ (cc = 102 ∧ ty = .byte)) (h0 : Zr m I L R)
    (k : V Z q lv (.ref m :: st) y1 I L R (kc + 1) (ks + N')) : V Z pc lv (.int n :: st) y I L R kc ks := by
  subst hm
  subst he
  exact V_newa (idx := 0) (tn := 0) hty h harr hn hN hb hc hy hcc (fun j => ⟨(h0.at j).1, (h0.at j).2.1⟩) k
theorem V_anewN {idx N' : Nat} {n : Int32} (m : Nat) (y1 : Ly) (hm : y.length = m) (he : y ++ [(103, N')] = y1) (h : At Z.1.2.1 pc (.anewarray idx) 3 q) (hcl : Cond.classLink Z.1.1.cls idx RX3 ∈ gw) (hn : ¬ n < 0) (hN : n.toNatClampNeg = N') (hb : N' * 4 ≤ 536870912) (hc : kc + 1 ≤ Z.2.1.cells ∧ ks + N' ≤ Z.2.1.slots) (hy : m < 1000) (h0 : Zr m I L R)
    (k : V Z q lv (.ref m :: st) y1 I L R (kc + 1) (ks + N')) : V Z pc lv (.int n :: st) y I L R kc ks := by
  subst hm
  subst he
  exact V_anew h hcl hn hN hb hc hy (fun j => (h0.at j).2.2) k
theorem V_callIN {X : Mx} {As : List Value} {k ci nf n idx d mc ms : Nat} {y1 : Ly} {I1 : WI} {L1 : WL} {R1 : WR} (hC : Ct X d (.ref k :: As) y I L R mc ms (none, y1, I1, L1, R1)) (hm : MOi X n) (hret : X.2.2.2 = none) (h : At Z.1.2.1 pc (.invokespecial idx) 3 q) (hli : Cond.methodLink Z.1.1.cls idx X.1 ∈ lw_tbl ∨ ∃ host, (Z.1.1.cls, idx, X.1, host) ∈ nests) (hn : As.length = n) (hk : y[k]? = some (ci, nf)) (hd : d + 1 ≤ Z.2.1.frames ∧ 8 + (X.2.2.1 + 11) + 60 * d ≤ Z.2.1.locals) (hmc : kc + mc ≤ Z.2.1.cells ∧ ks + ms ≤ Z.2.1.slots) (hw : (st.map fun v => v.category).sum ≤ 8) (hz : y1.length = y.length + mc)
    (kk : V Z q lv st y1 I1 L1 R1 (kc + mc) (ks + ms)) : V Z pc lv (As.reverse ++ .ref k :: st) y I L R kc ks :=
  V_callI hC hm hret h hli hn hk hd hmc hw hz kk
end Mk
theorem nty0 : ∀ j, j < 4 → tyX0 j ≠ .char ∧ tyX0 j ≠ .byte ∧ tyX0 j ≠ .short ∧ tyX0 j ≠ .float ∧ tyX0 j ≠ .double := by decide +kernel

theorem sp_160 : (Int16.ofInt 160).toInt32 = (160 : Int32) := by decide +kernel
theorem sp_6561 : (Int16.ofInt 6561).toInt32 = (6561 : Int32) := by decide +kernel
theorem ci_1_X0_init (I : WI) (L : WL) (R : WR) (hz : Zr 2 I L R) : Ct x_X0_init 2 [.ref 1, .int 1] (yp 2) I L R 0 0 (none, yp 2, (u2 (u2 (u2 I 1 1 4) 1 2 4) 1 0 1), L, R) :=
  Ct_of_V mo_X0_init.1 (Nat.le_of_ble_eq_true rfl) (V_aload_n (tat ok_X0_init_0 (i := 0) (q := 1) rfl rfl) 0 rfl rfl <|
    V_obj (tat ok_X0_init_0 (i := 1) (q := 4) rfl rfl) ml_X0_3 rfl ⟨(Nat.le_of_ble_eq_true rfl), (Nat.le_of_ble_eq_true rfl)⟩ <|
    V_aload_n (tat ok_X0_init_0 (i := 2) (q := 5) rfl rfl) 0 rfl rfl <|
    V_iconst (tat ok_X0_init_0 (i := 3) (q := 6) rfl rfl) ic_4 <|
    V_putI (tat ok_X0_init_0 (i := 4) (q := 9) rfl rfl) fk_X0_11 rfl rfl <|
    have zz1 := Zr.i (n := 2) (k := 1) (j := 1) (x := 4) hz (Nat.le_of_ble_eq_true rfl); V_aload_n (tat ok_X0_init_0 (i := 5) (q := 10) rfl rfl) 0 rfl rfl <|
    V_iconst (tat ok_X0_init_0 (i := 6) (q := 11) rfl rfl) ic_4 <|
    V_putI (tat ok_X0_init_0 (i := 7) (q := 14) rfl rfl) fk_X0_15 rfl rfl <|
    have zz2 := Zr.i (n := 2) (k := 1) (j := 2) (x := 4) zz1 (Nat.le_of_ble_eq_true rfl); V_aload_n (tat ok_X0_init_0 (i := 8) (q := 15) rfl rfl) 0 rfl rfl <|
    V_iload_n (tat ok_X0_init_0 (i := 9) (q := 16) rfl rfl) 1 rfl rfl <|
    V_putZ (tat ok_X0_init_0 (i := 10) (q := 19) rfl rfl) fk_X0_18 rfl rfl rfl <|
    have zz3 := Zr.i (n := 2) (k := 1) (j := 0) (x := 1) zz2 (Nat.le_of_ble_eq_true rfl); V_vret (tat ok_X0_init_0 (i := 11) (q := 20) rfl rfl) rfl rfl ⟨(Nat.le_of_ble_eq_true rfl), (Nat.le_of_ble_eq_true rfl)⟩)
theorem ci_1_X0_init_z {I : WI} {L : WL} {R : WR} (hz : Zr 2 I L R) : Zr 2 (u2 (u2 (u2 I 1 1 4) 1 2 4) 1 0 1) L R := have zz1 := Zr.i (n := 2) (k := 1) (j := 1) (x := 4) hz (Nat.le_of_ble_eq_true rfl); have zz2 := Zr.i (n := 2) (k := 1) (j := 2) (x := 4) zz1 (Nat.le_of_ble_eq_true rfl); have zz3 := Zr.i (n := 2) (k := 1) (j := 0) (x := 1) zz2 (Nat.le_of_ble_eq_true rfl); zz3
theorem ci_2_X0_init (I : WI) (L : WL) (R : WR) (hz : Zr 3 I L R) : Ct x_X0_init 2 [.ref 2, .int 0] (yp 3) I L R 0 0 (none, yp 3, (u2 (u2 (u2 I 2 1 4) 2 2 4) 2 0 0), L, R) :=
  Ct_of_V mo_X0_init.1 (Nat.le_of_ble_eq_true rfl) (V_aload_n (tat ok_X0_init_0 (i := 0) (q := 1) rfl rfl) 0 rfl rfl <|
    V_obj (tat ok_X0_init_0 (i := 1) (q := 4) rfl rfl) ml_X0_3 rfl ⟨(Nat.le_of_ble_eq_true rfl), (Nat.le_of_ble_eq_true rfl)⟩ <|
    V_aload_n (tat ok_X0_init_0 (i := 2) (q := 5) rfl rfl) 0 rfl rfl <|
    V_iconst (tat ok_X0_init_0 (i := 3) (q := 6) rfl rfl) ic_4 <|
    V_putI (tat ok_X0_init_0 (i := 4) (q := 9) rfl rfl) fk_X0_11 rfl rfl <|
    have zz1 := Zr.i (n := 3) (k := 2) (j := 1) (x := 4) hz (Nat.le_of_ble_eq_true rfl); V_aload_n (tat ok_X0_init_0 (i := 5) (q := 10) rfl rfl) 0 rfl rfl <|
    V_iconst (tat ok_X0_init_0 (i := 6) (q := 11) rfl rfl) ic_4 <|
    V_putI (tat ok_X0_init_0 (i := 7) (q := 14) rfl rfl) fk_X0_15 rfl rfl <|
    have zz2 := Zr.i (n := 3) (k := 2) (j := 2) (x := 4) zz1 (Nat.le_of_ble_eq_true rfl); V_aload_n (tat ok_X0_init_0 (i := 8) (q := 15) rfl rfl) 0 rfl rfl <|
    V_iload_n (tat ok_X0_init_0 (i := 9) (q := 16) rfl rfl) 1 rfl rfl <|
    V_putZ (tat ok_X0_init_0 (i := 10) (q := 19) rfl rfl) fk_X0_18 rfl rfl rfl <|
    have zz3 := Zr.i (n := 3) (k := 2) (j := 0) (x := 0) zz2 (Nat.le_of_ble_eq_true rfl); V_vret (tat ok_X0_init_0 (i := 11) (q := 20) rfl rfl) rfl rfl ⟨(Nat.le_of_ble_eq_true rfl), (Nat.le_of_ble_eq_true rfl)⟩)
theorem ci_2_X0_init_z {I : WI} {L : WL} {R : WR} (hz : Zr 3 I L R) : Zr 3 (u2 (u2 (u2 I 2 1 4) 2 2 4) 2 0 0) L R := have zz1 := Zr.i (n := 3) (k := 2) (j := 1) (x := 4) hz (Nat.le_of_ble_eq_true rfl); have zz2 := Zr.i (n := 3) (k := 2) (j := 2) (x := 4) zz1 (Nat.le_of_ble_eq_true rfl); have zz3 := Zr.i (n := 3) (k := 2) (j := 0) (x := 0) zz2 (Nat.le_of_ble_eq_true rfl); zz3
theorem ci_3_X0_init (I : WI) (L : WL) (R : WR) (hz : Zr 4 I L R) : Ct x_X0_init 2 [.ref 3, .int 0] (yp 4) I L R 0 0 (none, yp 4, (u2 (u2 (u2 I 3 1 4) 3 2 4) 3 0 0), L, R) :=
  Ct_of_V mo_X0_init.1 (Nat.le_of_ble_eq_true rfl) (V_aload_n (tat ok_X0_init_0 (i := 0) (q := 1) rfl rfl) 0 rfl rfl <|
    V_obj (tat ok_X0_init_0 (i := 1) (q := 4) rfl rfl) ml_X0_3 rfl ⟨(Nat.le_of_ble_eq_true rfl), (Nat.le_of_ble_eq_true rfl)⟩ <|
    V_aload_n (tat ok_X0_init_0 (i := 2) (q := 5) rfl rfl) 0 rfl rfl <|
    V_iconst (tat ok_X0_init_0 (i := 3) (q := 6) rfl rfl) ic_4 <|
    V_putI (tat ok_X0_init_0 (i := 4) (q := 9) rfl rfl) fk_X0_11 rfl rfl <|
    have zz1 := Zr.i (n := 4) (k := 3) (j := 1) (x := 4) hz (Nat.le_of_ble_eq_true rfl); V_aload_n (tat ok_X0_init_0 (i := 5) (q := 10) rfl rfl) 0 rfl rfl <|
    V_iconst (tat ok_X0_init_0 (i := 6) (q := 11) rfl rfl) ic_4 <|
    V_putI (tat ok_X0_init_0 (i := 7) (q := 14) rfl rfl) fk_X0_15 rfl rfl <|
    have zz2 := Zr.i (n := 4) (k := 3) (j := 2) (x := 4) zz1 (Nat.le_of_ble_eq_true rfl); V_aload_n (tat ok_X0_init_0 (i := 8) (q := 15) rfl rfl) 0 rfl rfl <|
    V_iload_n (tat ok_X0_init_0 (i := 9) (q := 16) rfl rfl) 1 rfl rfl <|
    V_putZ (tat ok_X0_init_0 (i := 10) (q := 19) rfl rfl) fk_X0_18 rfl rfl rfl <|
    have zz3 := Zr.i (n := 4) (k := 3) (j := 0) (x := 0) zz2 (Nat.le_of_ble_eq_true rfl); V_vret (tat ok_X0_init_0 (i := 11) (q := 20) rfl rfl) rfl rfl ⟨(Nat.le_of_ble_eq_true rfl), (Nat.le_of_ble_eq_true rfl)⟩)
theorem ci_3_X0_init_z {I : WI} {L : WL} {R : WR} (hz : Zr 4 I L R) : Zr 4 (u2 (u2 (u2 I 3 1 4) 3 2 4) 3 0 0) L R := have zz1 := Zr.i (n := 4) (k := 3) (j := 1) (x := 4) hz (Nat.le_of_ble_eq_true rfl); have zz2 := Zr.i (n := 4) (k := 3) (j := 2) (x := 4) zz1 (Nat.le_of_ble_eq_true rfl); have zz3 := Zr.i (n := 4) (k := 3) (j := 0) (x := 0) zz2 (Nat.le_of_ble_eq_true rfl); zz3
theorem ci_4_X0_init (I : WI) (L : WL) (R : WR) (hz : Zr 5 I L R) : Ct x_X0_init 2 [.ref 4, .int 0] (yp 5) I L R 0 0 (none, yp 5, (u2 (u2 (u2 I 4 1 4) 4 2 4) 4 0 0), L, R) :=
  Ct_of_V mo_X0_init.1 (Nat.le_of_ble_eq_true rfl) (V_aload_n (tat ok_X0_init_0 (i := 0) (q := 1) rfl rfl) 0 rfl rfl <|
    V_obj (tat ok_X0_init_0 (i := 1) (q := 4) rfl rfl) ml_X0_3 rfl ⟨(Nat.le_of_ble_eq_true rfl), (Nat.le_of_ble_eq_true rfl)⟩ <|
    V_aload_n (tat ok_X0_init_0 (i := 2) (q := 5) rfl rfl) 0 rfl rfl <|
    V_iconst (tat ok_X0_init_0 (i := 3) (q := 6) rfl rfl) ic_4 <|
    V_putI (tat ok_X0_init_0 (i := 4) (q := 9) rfl rfl) fk_X0_11 rfl rfl <|
    have zz1 := Zr.i (n := 5) (k := 4) (j := 1) (x := 4) hz (Nat.le_of_ble_eq_true rfl); V_aload_n (tat ok_X0_init_0 (i := 5) (q := 10) rfl rfl) 0 rfl rfl <|
    V_iconst (tat ok_X0_init_0 (i := 6) (q := 11) rfl rfl) ic_4 <|
    V_putI (tat ok_X0_init_0 (i := 7) (q := 14) rfl rfl) fk_X0_15 rfl rfl <|
    have zz2 := Zr.i (n := 5) (k := 4) (j := 2) (x := 4) zz1 (Nat.le_of_ble_eq_true rfl); V_aload_n (tat ok_X0_init_0 (i := 8) (q := 15) rfl rfl) 0 rfl rfl <|
    V_iload_n (tat ok_X0_init_0 (i := 9) (q := 16) rfl rfl) 1 rfl rfl <|
    V_putZ (tat ok_X0_init_0 (i := 10) (q := 19) rfl rfl) fk_X0_18 rfl rfl rfl <|
    have zz3 := Zr.i (n := 5) (k := 4) (j := 0) (x := 0) zz2 (Nat.le_of_ble_eq_true rfl); V_vret (tat ok_X0_init_0 (i := 11) (q := 20) rfl rfl) rfl rfl ⟨(Nat.le_of_ble_eq_true rfl), (Nat.le_of_ble_eq_true rfl)⟩)
theorem ci_4_X0_init_z {I : WI} {L : WL} {R : WR} (hz : Zr 5 I L R) : Zr 5 (u2 (u2 (u2 I 4 1 4) 4 2 4) 4 0 0) L R := have zz1 := Zr.i (n := 5) (k := 4) (j := 1) (x := 4) hz (Nat.le_of_ble_eq_true rfl); have zz2 := Zr.i (n := 5) (k := 4) (j := 2) (x := 4) zz1 (Nat.le_of_ble_eq_true rfl); have zz3 := Zr.i (n := 5) (k := 4) (j := 0) (x := 0) zz2 (Nat.le_of_ble_eq_true rfl); zz3
theorem ci_5_X0_init (I : WI) (L : WL) (R : WR) (hz : Zr 6 I L R) : Ct x_X0_init 2 [.ref 5, .int 1] (yp 6) I L R 0 0 (none, yp 6, (u2 (u2 (u2 I 5 1 4) 5 2 4) 5 0 1), L, R) :=
  Ct_of_V mo_X0_init.1 (Nat.le_of_ble_eq_true rfl) (V_aload_n (tat ok_X0_init_0 (i := 0) (q := 1) rfl rfl) 0 rfl rfl <|
    V_obj (tat ok_X0_init_0 (i := 1) (q := 4) rfl rfl) ml_X0_3 rfl ⟨(Nat.le_of_ble_eq_true rfl), (Nat.le_of_ble_eq_true rfl)⟩ <|
    V_aload_n (tat ok_X0_init_0 (i := 2) (q := 5) rfl rfl) 0 rfl rfl <|
    V_iconst (tat ok_X0_init_0 (i := 3) (q := 6) rfl rfl) ic_4 <|
    V_putI (tat ok_X0_init_0 (i := 4) (q := 9) rfl rfl) fk_X0_11 rfl rfl <|
    have zz1 := Zr.i (n := 6) (k := 5) (j := 1) (x := 4) hz (Nat.le_of_ble_eq_true rfl); V_aload_n (tat ok_X0_init_0 (i := 5) (q := 10) rfl rfl) 0 rfl rfl <|
    V_iconst (tat ok_X0_init_0 (i := 6) (q := 11) rfl rfl) ic_4 <|
    V_putI (tat ok_X0_init_0 (i := 7) (q := 14) rfl rfl) fk_X0_15 rfl rfl <|
    have zz2 := Zr.i (n := 6) (k := 5) (j := 2) (x := 4) zz1 (Nat.le_of_ble_eq_true rfl); V_aload_n (tat ok_X0_init_0 (i := 8) (q := 15) rfl rfl) 0 rfl rfl <|
    V_iload_n (tat ok_X0_init_0 (i := 9) (q := 16) rfl rfl) 1 rfl rfl <|
    V_putZ (tat ok_X0_init_0 (i := 10) (q := 19) rfl rfl) fk_X0_18 rfl rfl rfl <|
    have zz3 := Zr.i (n := 6) (k := 5) (j := 0) (x := 1) zz2 (Nat.le_of_ble_eq_true rfl); V_vret (tat ok_X0_init_0 (i := 11) (q := 20) rfl rfl) rfl rfl ⟨(Nat.le_of_ble_eq_true rfl), (Nat.le_of_ble_eq_true rfl)⟩)
theorem ci_5_X0_init_z {I : WI} {L : WL} {R : WR} (hz : Zr 6 I L R) : Zr 6 (u2 (u2 (u2 I 5 1 4) 5 2 4) 5 0 1) L R := have zz1 := Zr.i (n := 6) (k := 5) (j := 1) (x := 4) hz (Nat.le_of_ble_eq_true rfl); have zz2 := Zr.i (n := 6) (k := 5) (j := 2) (x := 4) zz1 (Nat.le_of_ble_eq_true rfl); have zz3 := Zr.i (n := 6) (k := 5) (j := 0) (x := 1) zz2 (Nat.le_of_ble_eq_true rfl); zz3
theorem ci_6_X1_init (I : WI) (L : WL) (R : WR) (hz : Zr 7 I L R) : Ct x_X1_init 2 [.ref 6] (yp 7) I L R 2 48 (none, yp 9, I, L, (u2 (u2 R 6 1 (some 7)) 6 2 (some 8))) :=
  Ct_of_V mo_X1_init.1 (Nat.le_of_ble_eq_true rfl) (V_aload_n (tat ok_X1_init_0 (i := 0) (q := 1) rfl rfl) 0 rfl rfl <|
    V_obj (tat ok_X1_init_0 (i := 1) (q := 4) rfl rfl) ml_X1_1 rfl ⟨(Nat.le_of_ble_eq_true rfl), (Nat.le_of_ble_eq_true rfl)⟩ <|
    V_aload_n (tat ok_X1_init_0 (i := 2) (q := 5) rfl rfl) 0 rfl rfl <|
    V_bipush (tat ok_X1_init_0 (i := 3) (q := 7) rfl rfl) bp_12 <|
    V_newaN (atype := .int) (ty := .int) 7 (yp 8) rfl rfl rfl (tat ok_X1_init_0 (i := 4) (q := 9) rfl rfl) (gw_in ac_int rfl) (by decide) (by decide) (by decide) ⟨(Nat.le_of_ble_eq_true rfl), (Nat.le_of_ble_eq_true rfl)⟩ (by decide) (Or.inl ⟨rfl, rfl⟩) hz <|
    have zz1 := Zr.up (n := 7) (m := 8) hz (Nat.le_of_ble_eq_true rfl); V_putR cf_X1 (j := 1) (by decide) (tat ok_X1_init_0 (i := 5) (q := 12) rfl rfl) (gw_in fl_X1_9 rfl) rfl rfl rfl rfl rfl (by decide) <|
    have zz2 := Zr.r (n := 8) (k := 6) (j := 1) (x := some 7) zz1 (Nat.le_of_ble_eq_true rfl); V_aload_n (tat ok_X1_init_0 (i := 6) (q := 13) rfl rfl) 0 rfl rfl <|
    V_bipush (tat ok_X1_init_0 (i := 7) (q := 15) rfl rfl) bp_36 <|
    V_newaN (atype := .int) (ty := .int) 8 (yp 9) rfl rfl rfl (tat ok_X1_init_0 (i := 8) (q := 17) rfl rfl) (gw_in ac_int rfl) (by decide) (by decide) (by decide) ⟨(Nat.le_of_ble_eq_true rfl), (Nat.le_of_ble_eq_true rfl)⟩ (by decide) (Or.inl ⟨rfl, rfl⟩) zz2 <|
    have zz3 := Zr.up (n := 8) (m := 9) zz2 (Nat.le_of_ble_eq_true rfl); V_putR cf_X1 (j := 2) (by decide) (tat ok_X1_init_0 (i := 9) (q := 20) rfl rfl) (gw_in fl_X1_13 rfl) rfl rfl rfl rfl rfl (by decide) <|
    have zz4 := Zr.r (n := 9) (k := 6) (j := 2) (x := some 8) zz3 (Nat.le_of_ble_eq_true rfl); V_vret (tat ok_X1_init_0 (i := 10) (q := 21) rfl rfl) rfl rfl ⟨(Nat.le_of_ble_eq_true rfl), (Nat.le_of_ble_eq_true rfl)⟩)
theorem ci_6_X1_init_z {I : WI} {L : WL} {R : WR} (hz : Zr 7 I L R) : Zr 9 I L (u2 (u2 R 6 1 (some 7)) 6 2 (some 8)) := have zz1 := Zr.up (n := 7) (m := 8) hz (Nat.le_of_ble_eq_true rfl); have zz2 := Zr.r (n := 8) (k := 6) (j := 1) (x := some 7) zz1 (Nat.le_of_ble_eq_true rfl); have zz3 := Zr.up (n := 8) (m := 9) zz2 (Nat.le_of_ble_eq_true rfl); have zz4 := Zr.r (n := 9) (k := 6) (j := 2) (x := some 8) zz3 (Nat.le_of_ble_eq_true rfl); zz4
theorem ci_7_X5_init (I : WI) (L : WL) (R : WR) (hz : Zr 10 I L R) : Ct x_X5_init 2 [.ref 9] (yp 10) I L R 1 320 (none, yp 11, I, L, (u2 R 9 1 (some 10))) :=
  Ct_of_V mo_X5_init.1 (Nat.le_of_ble_eq_true rfl) (V_aload_n (tat ok_X5_init_0 (i := 0) (q := 1) rfl rfl) 0 rfl rfl <|
    V_obj (tat ok_X5_init_0 (i := 1) (q := 4) rfl rfl) ml_X5_1 rfl ⟨(Nat.le_of_ble_eq_true rfl), (Nat.le_of_ble_eq_true rfl)⟩ <|
    V_aload_n (tat ok_X5_init_0 (i := 2) (q := 5) rfl rfl) 0 rfl rfl <|
    V_sipush (tat ok_X5_init_0 (i := 3) (q := 8) rfl rfl) sp_320 <|
    V_newaN (atype := .byte) (ty := .byte) 10 (yp 11) rfl rfl rfl (tat ok_X5_init_0 (i := 4) (q := 10) rfl rfl) (gw_in ac_byte rfl) (by decide) (by decide) (by decide) ⟨(Nat.le_of_ble_eq_true rfl), (Nat.le_of_ble_eq_true rfl)⟩ (by decide) (Or.inr (Or.inr ⟨rfl, rfl⟩)) hz <|
    have zz1 := Zr.up (n := 10) (m := 11) hz (Nat.le_of_ble_eq_true rfl); V_putR cf_X5 (j := 1) (by decide) (tat ok_X5_init_0 (i := 5) (q := 13) rfl rfl) (gw_in fl_X5_9 rfl) rfl rfl rfl rfl rfl (by decide) <|
    have zz2 := Zr.r (n := 11) (k := 9) (j := 1) (x := some 10) zz1 (Nat.le_of_ble_eq_true rfl); V_vret (tat ok_X5_init_0 (i := 6) (q := 14) rfl rfl) rfl rfl ⟨(Nat.le_of_ble_eq_true rfl), (Nat.le_of_ble_eq_true rfl)⟩)
theorem ci_7_X5_init_z {I : WI} {L : WL} {R : WR} (hz : Zr 10 I L R) : Zr 11 I L (u2 R 9 1 (some 10)) := have zz1 := Zr.up (n := 10) (m := 11) hz (Nat.le_of_ble_eq_true rfl); have zz2 := Zr.r (n := 11) (k := 9) (j := 1) (x := some 10) zz1 (Nat.le_of_ble_eq_true rfl); zz2
theorem ci_8_X0_init (I : WI) (L : WL) (R : WR) (hz : Zr 13 I L R) : Ct x_X0_init 2 [.ref 12, .int 0] (yp 13) I L R 0 0 (none, yp 13, (u2 (u2 (u2 I 12 1 4) 12 2 4) 12 0 0), L, R) :=
  Ct_of_V mo_X0_init.1 (Nat.le_of_ble_eq_true rfl) (V_aload_n (tat ok_X0_init_0 (i := 0) (q := 1) rfl rfl) 0 rfl rfl <|
    V_obj (tat ok_X0_init_0 (i := 1) (q := 4) rfl rfl) ml_X0_3 rfl ⟨(Nat.le_of_ble_eq_true rfl), (Nat.le_of_ble_eq_true rfl)⟩ <|
    V_aload_n (tat ok_X0_init_0 (i := 2) (q := 5) rfl rfl) 0 rfl rfl <|
    V_iconst (tat ok_X0_init_0 (i := 3) (q := 6) rfl rfl) ic_4 <|
    V_putI (tat ok_X0_init_0 (i := 4) (q := 9) rfl rfl) fk_X0_11 rfl rfl <|
    have zz1 := Zr.i (n := 13) (k := 12) (j := 1) (x := 4) hz (Nat.le_of_ble_eq_true rfl); V_aload_n (tat ok_X0_init_0 (i := 5) (q := 10) rfl rfl) 0 rfl rfl <|
    V_iconst (tat ok_X0_init_0 (i := 6) (q := 11) rfl rfl) ic_4 <|
    V_putI (tat ok_X0_init_0 (i := 7) (q := 14) rfl rfl) fk_X0_15 rfl rfl <|
    have zz2 := Zr.i (n := 13) (k := 12) (j := 2) (x := 4) zz1 (Nat.le_of_ble_eq_true rfl); V_aload_n (tat ok_X0_init_0 (i := 8) (q := 15) rfl rfl) 0 rfl rfl <|
    V_iload_n (tat ok_X0_init_0 (i := 9) (q := 16) rfl rfl) 1 rfl rfl <|
    V_putZ (tat ok_X0_init_0 (i := 10) (q := 19) rfl rfl) fk_X0_18 rfl rfl rfl <|
    have zz3 := Zr.i (n := 13) (k := 12) (j := 0) (x := 0) zz2 (Nat.le_of_ble_eq_true rfl); V_vret (tat ok_X0_init_0 (i := 11) (q := 20) rfl rfl) rfl rfl ⟨(Nat.le_of_ble_eq_true rfl), (Nat.le_of_ble_eq_true rfl)⟩)
theorem ci_8_X0_init_z {I : WI} {L : WL} {R : WR} (hz : Zr 13 I L R) : Zr 13 (u2 (u2 (u2 I 12 1 4) 12 2 4) 12 0 0) L R := have zz1 := Zr.i (n := 13) (k := 12) (j := 1) (x := 4) hz (Nat.le_of_ble_eq_true rfl); have zz2 := Zr.i (n := 13) (k := 12) (j := 2) (x := 4) zz1 (Nat.le_of_ble_eq_true rfl); have zz3 := Zr.i (n := 13) (k := 12) (j := 0) (x := 0) zz2 (Nat.le_of_ble_eq_true rfl); zz3
theorem ci_9_X0_init (I : WI) (L : WL) (R : WR) (hz : Zr 14 I L R) : Ct x_X0_init 2 [.ref 13, .int 0] (yp 14) I L R 0 0 (none, yp 14, (u2 (u2 (u2 I 13 1 4) 13 2 4) 13 0 0), L, R) :=
  Ct_of_V mo_X0_init.1 (Nat.le_of_ble_eq_true rfl) (V_aload_n (tat ok_X0_init_0 (i := 0) (q := 1) rfl rfl) 0 rfl rfl <|
    V_obj (tat ok_X0_init_0 (i := 1) (q := 4) rfl rfl) ml_X0_3 rfl ⟨(Nat.le_of_ble_eq_true rfl), (Nat.le_of_ble_eq_true rfl)⟩ <|
    V_aload_n (tat ok_X0_init_0 (i := 2) (q := 5) rfl rfl) 0 rfl rfl <|
    V_iconst (tat ok_X0_init_0 (i := 3) (q := 6) rfl rfl) ic_4 <|
    V_putI (tat ok_X0_init_0 (i := 4) (q := 9) rfl rfl) fk_X0_11 rfl rfl <|
    have zz1 := Zr.i (n := 14) (k := 13) (j := 1) (x := 4) hz (Nat.le_of_ble_eq_true rfl); V_aload_n (tat ok_X0_init_0 (i := 5) (q := 10) rfl rfl) 0 rfl rfl <|
    V_iconst (tat ok_X0_init_0 (i := 6) (q := 11) rfl rfl) ic_4 <|
    V_putI (tat ok_X0_init_0 (i := 7) (q := 14) rfl rfl) fk_X0_15 rfl rfl <|
    have zz2 := Zr.i (n := 14) (k := 13) (j := 2) (x := 4) zz1 (Nat.le_of_ble_eq_true rfl); V_aload_n (tat ok_X0_init_0 (i := 8) (q := 15) rfl rfl) 0 rfl rfl <|
    V_iload_n (tat ok_X0_init_0 (i := 9) (q := 16) rfl rfl) 1 rfl rfl <|
    V_putZ (tat ok_X0_init_0 (i := 10) (q := 19) rfl rfl) fk_X0_18 rfl rfl rfl <|
    have zz3 := Zr.i (n := 14) (k := 13) (j := 0) (x := 0) zz2 (Nat.le_of_ble_eq_true rfl); V_vret (tat ok_X0_init_0 (i := 11) (q := 20) rfl rfl) rfl rfl ⟨(Nat.le_of_ble_eq_true rfl), (Nat.le_of_ble_eq_true rfl)⟩)
theorem ci_9_X0_init_z {I : WI} {L : WL} {R : WR} (hz : Zr 14 I L R) : Zr 14 (u2 (u2 (u2 I 13 1 4) 13 2 4) 13 0 0) L R := have zz1 := Zr.i (n := 14) (k := 13) (j := 1) (x := 4) hz (Nat.le_of_ble_eq_true rfl); have zz2 := Zr.i (n := 14) (k := 13) (j := 2) (x := 4) zz1 (Nat.le_of_ble_eq_true rfl); have zz3 := Zr.i (n := 14) (k := 13) (j := 0) (x := 0) zz2 (Nat.le_of_ble_eq_true rfl); zz3
theorem ci_10_X1_init (I : WI) (L : WL) (R : WR) (hz : Zr 15 I L R) : Ct x_X1_init 2 [.ref 14] (yp 15) I L R 2 48 (none, yp 17, I, L, (u2 (u2 R 14 1 (some 15)) 14 2 (some 16))) :=
  Ct_of_V mo_X1_init.1 (Nat.le_of_ble_eq_true rfl) (V_aload_n (tat ok_X1_init_0 (i := 0) (q := 1) rfl rfl) 0 rfl rfl <|
    V_obj (tat ok_X1_init_0 (i := 1) (q := 4) rfl rfl) ml_X1_1 rfl ⟨(Nat.le_of_ble_eq_true rfl), (Nat.le_of_ble_eq_true rfl)⟩ <|
    V_aload_n (tat ok_X1_init_0 (i := 2) (q := 5) rfl rfl) 0 rfl rfl <|
    V_bipush (tat ok_X1_init_0 (i := 3) (q := 7) rfl rfl) bp_12 <|
    V_newaN (atype := .int) (ty := .int) 15 (yp 16) rfl rfl rfl (tat ok_X1_init_0 (i := 4) (q := 9) rfl rfl) (gw_in ac_int rfl) (by decide) (by decide) (by decide) ⟨(Nat.le_of_ble_eq_true rfl), (Nat.le_of_ble_eq_true rfl)⟩ (by decide) (Or.inl ⟨rfl, rfl⟩) hz <|
    have zz1 := Zr.up (n := 15) (m := 16) hz (Nat.le_of_ble_eq_true rfl); V_putR cf_X1 (j := 1) (by decide) (tat ok_X1_init_0 (i := 5) (q := 12) rfl rfl) (gw_in fl_X1_9 rfl) rfl rfl rfl rfl rfl (by decide) <|
    have zz2 := Zr.r (n := 16) (k := 14) (j := 1) (x := some 15) zz1 (Nat.le_of_ble_eq_true rfl); V_aload_n (tat ok_X1_init_0 (i := 6) (q := 13) rfl rfl) 0 rfl rfl <|
    V_bipush (tat ok_X1_init_0 (i := 7) (q := 15) rfl rfl) bp_36 <|
    V_newaN (atype := .int) (ty := .int) 16 (yp 17) rfl rfl rfl (tat ok_X1_init_0 (i := 8) (q := 17) rfl rfl) (gw_in ac_int rfl) (by decide) (by decide) (by decide) ⟨(Nat.le_of_ble_eq_true rfl), (Nat.le_of_ble_eq_true rfl)⟩ (by decide) (Or.inl ⟨rfl, rfl⟩) zz2 <|
    have zz3 := Zr.up (n := 16) (m := 17) zz2 (Nat.le_of_ble_eq_true rfl); V_putR cf_X1 (j := 2) (by decide) (tat ok_X1_init_0 (i := 9) (q := 20) rfl rfl) (gw_in fl_X1_13 rfl) rfl rfl rfl rfl rfl (by decide) <|
    have zz4 := Zr.r (n := 17) (k := 14) (j := 2) (x := some 16) zz3 (Nat.le_of_ble_eq_true rfl); V_vret (tat ok_X1_init_0 (i := 10) (q := 21) rfl rfl) rfl rfl ⟨(Nat.le_of_ble_eq_true rfl), (Nat.le_of_ble_eq_true rfl)⟩)
theorem ci_10_X1_init_z {I : WI} {L : WL} {R : WR} (hz : Zr 15 I L R) : Zr 17 I L (u2 (u2 R 14 1 (some 15)) 14 2 (some 16)) := have zz1 := Zr.up (n := 15) (m := 16) hz (Nat.le_of_ble_eq_true rfl); have zz2 := Zr.r (n := 16) (k := 14) (j := 1) (x := some 15) zz1 (Nat.le_of_ble_eq_true rfl); have zz3 := Zr.up (n := 16) (m := 17) zz2 (Nat.le_of_ble_eq_true rfl); have zz4 := Zr.r (n := 17) (k := 14) (j := 2) (x := some 16) zz3 (Nat.le_of_ble_eq_true rfl); zz4
theorem ci_11_X6_init (I : WI) (L : WL) (R : WR) (hz : Zr 12 I L R) : Ct x_X6_init 3 [.ref 11, .ref 9] (yp 12) I L R 5 59 (none, yp 17, (u2 (u2 (u2 (u2 (u2 (u2 I 12 1 4) 12 2 4) 12 0 0) 13 1 4) 13 2 4) 13 0 0), L, (u2 (u2 (u2 (u2 (u2 (u2 R 11 0 (some 12)) 11 1 (some 13)) 14 1 (some 15)) 14 2 (some 16)) 11 2 (some 14)) 11 4 (some 9))) :=
  Ct_of_V mo_X6_init.1 (Nat.le_of_ble_eq_true rfl) (V_aload_n (tat ok_X6_init_0 (i := 0) (q := 1) rfl rfl) 0 rfl rfl <|
    V_obj (tat ok_X6_init_0 (i := 1) (q := 4) rfl rfl) ml_X6_3 rfl ⟨(Nat.le_of_ble_eq_true rfl), (Nat.le_of_ble_eq_true rfl)⟩ <|
    V_aload_n (tat ok_X6_init_0 (i := 2) (q := 5) rfl rfl) 0 rfl rfl <|
    V_newN 12 (yp 13) rfl rfl cf_X0 (tat ok_X6_init_0 (i := 3) (q := 8) rfl rfl) (gw_in cl_X6_9 rfl) (gw_in is_X0 rfl) (gw_in ii_X0 rfl) ⟨(Nat.le_of_ble_eq_true rfl), (Nat.le_of_ble_eq_true rfl)⟩ (by decide) hz (by decide +kernel) <|
    have zz1 := Zr.up (n := 12) (m := 13) hz (Nat.le_of_ble_eq_true rfl); V_dup (tat ok_X6_init_0 (i := 4) (q := 9) rfl rfl) rfl <|
    V_iconst (tat ok_X6_init_0 (i := 5) (q := 10) rfl rfl) ic_0 <|
    V_callIN (As := [.int 0]) (ci_8_X0_init I L R zz1) mo_X0_init rfl (tat ok_X6_init_0 (i := 6) (q := 13) rfl rfl) (Or.inl ml_X6_11) rfl rfl ⟨(Nat.le_of_ble_eq_true rfl), (Nat.le_of_ble_eq_true rfl)⟩ ⟨(Nat.le_of_ble_eq_true rfl), (Nat.le_of_ble_eq_true rfl)⟩ (Nat.le_of_ble_eq_true rfl) rfl <|
    have zz2 := ci_8_X0_init_z zz1; V_putR cf_X6 (j := 0) (by decide) (tat ok_X6_init_0 (i := 7) (q := 16) rfl rfl) (gw_in fl_X6_14 rfl) rfl rfl rfl rfl rfl (by decide) <|
    have zz3 := Zr.r (n := 13) (k := 11) (j := 0) (x := some 12) zz2 (Nat.le_of_ble_eq_true rfl); V_aload_n (tat ok_X6_init_0 (i := 8) (q := 17) rfl rfl) 0 rfl rfl <|
    V_newN 13 (yp 14) rfl rfl cf_X0 (tat ok_X6_init_0 (i := 9) (q := 20) rfl rfl) (gw_in cl_X6_9 rfl) (gw_in is_X0 rfl) (gw_in ii_X0 rfl) ⟨(Nat.le_of_ble_eq_true rfl), (Nat.le_of_ble_eq_true rfl)⟩ (by decide) zz3 (by decide +kernel) <|
    have zz4 := Zr.up (n := 13) (m := 14) zz3 (Nat.le_of_ble_eq_true rfl); V_dup (tat ok_X6_init_0 (i := 10) (q := 21) rfl rfl) rfl <|
    V_iconst (tat ok_X6_init_0 (i := 11) (q := 22) rfl rfl) ic_0 <|
    V_callIN (As := [.int 0]) (ci_9_X0_init (u2 (u2 (u2 I 12 1 4) 12 2 4) 12 0 0) L (u2 R 11 0 (some 12)) zz4) mo_X0_init rfl (tat ok_X6_init_0 (i := 12) (q := 25) rfl rfl) (Or.inl ml_X6_11) rfl rfl ⟨(Nat.le_of_ble_eq_true rfl), (Nat.le_of_ble_eq_true rfl)⟩ ⟨(Nat.le_of_ble_eq_true rfl), (Nat.le_of_ble_eq_true rfl)⟩ (Nat.le_of_ble_eq_true rfl) rfl <|
    have zz5 := ci_9_X0_init_z zz4; V_putR cf_X6 (j := 1) (by decide) (tat ok_X6_init_0 (i := 13) (q := 28) rfl rfl) (gw_in fl_X6_20 rfl) rfl rfl rfl rfl rfl (by decide) <|
    have zz6 := Zr.r (n := 14) (k := 11) (j := 1) (x := some 13) zz5 (Nat.le_of_ble_eq_true rfl); V_aload_n (tat ok_X6_init_0 (i := 14) (q := 29) rfl rfl) 0 rfl rfl <|
    V_newN 14 (yp 15) rfl rfl cf_X1 (tat ok_X6_init_0 (i := 15) (q := 32) rfl rfl) (gw_in cl_X6_23 rfl) (gw_in is_X1 rfl) (gw_in ii_X1 rfl) ⟨(Nat.le_of_ble_eq_true rfl), (Nat.le_of_ble_eq_true rfl)⟩ (by decide) zz6 (by decide +kernel) <|
    have zz7 := Zr.up (n := 14) (m := 15) zz6 (Nat.le_of_ble_eq_true rfl); V_dup (tat ok_X6_init_0 (i := 16) (q := 33) rfl rfl) rfl <|
    V_callIN (As := []) (ci_10_X1_init (u2 (u2 (u2 (u2 (u2 (u2 I 12 1 4) 12 2 4) 12 0 0) 13 1 4) 13 2 4) 13 0 0) L (u2 (u2 R 11 0 (some 12)) 11 1 (some 13)) zz7) mo_X1_init rfl (tat ok_X6_init_0 (i := 17) (q := 36) rfl rfl) (Or.inr ⟨RX8, List.mem_of_getElem? (l := nests) (i := 2) rfl⟩) rfl rfl ⟨(Nat.le_of_ble_eq_true rfl), (Nat.le_of_ble_eq_true rfl)⟩ ⟨(Nat.le_of_ble_eq_true rfl), (Nat.le_of_ble_eq_true rfl)⟩ (Nat.le_of_ble_eq_true rfl) rfl <|
    have zz8 := ci_10_X1_init_z zz7; V_putR cf_X6 (j := 2) (by decide) (tat ok_X6_init_0 (i := 18) (q := 39) rfl rfl) (gw_in fl_X6_26 rfl) rfl rfl rfl rfl rfl (by decide) <|
    have zz9 := Zr.r (n := 17) (k := 11) (j := 2) (x := some 14) zz8 (Nat.le_of_ble_eq_true rfl); V_aload_n (tat ok_X6_init_0 (i := 19) (q := 40) rfl rfl) 0 rfl rfl <|
    V_aload_n (tat ok_X6_init_0 (i := 20) (q := 41) rfl rfl) 1 rfl rfl <|
    V_putR cf_X6 (j := 4) (by decide) (tat ok_X6_init_0 (i := 21) (q := 44) rfl rfl) (gw_in fl_X6_30 rfl) rfl rfl rfl rfl rfl (by decide) <|
    have zz10 := Zr.r (n := 17) (k := 11) (j := 4) (x := some 9) zz9 (Nat.le_of_ble_eq_true rfl); V_vret (tat ok_X6_init_0 (i := 22) (q := 45) rfl rfl) rfl rfl ⟨(Nat.le_of_ble_eq_true rfl), (Nat.le_of_ble_eq_true rfl)⟩)
theorem ci_11_X6_init_z {I : WI} {L : WL} {R : WR} (hz : Zr 12 I L R) : Zr 17 (u2 (u2 (u2 (u2 (u2 (u2 I 12 1 4) 12 2 4) 12 0 0) 13 1 4) 13 2 4) 13 0 0) L (u2 (u2 (u2 (u2 (u2 (u2 R 11 0 (some 12)) 11 1 (some 13)) 14 1 (some 15)) 14 2 (some 16)) 11 2 (some 14)) 11 4 (some 9)) := have zz1 := Zr.up (n := 12) (m := 13) hz (Nat.le_of_ble_eq_true rfl); have zz2 := ci_8_X0_init_z zz1; have zz3 := Zr.r (n := 13) (k := 11) (j := 0) (x := some 12) zz2 (Nat.le_of_ble_eq_true rfl); have zz4 := Zr.up (n := 13) (m := 14) zz3 (Nat.le_of_ble_eq_true rfl); have zz5 := ci_9_X0_init_z zz4; have zz6 := Zr.r (n := 14) (k := 11) (j := 1) (x := some 13) zz5 (Nat.le_of_ble_eq_true rfl); have zz7 := Zr.up (n := 14) (m := 15) zz6 (Nat.le_of_ble_eq_true rfl); have zz8 := ci_10_X1_init_z zz7; have zz9 := Zr.r (n := 17) (k := 11) (j := 2) (x := some 14) zz8 (Nat.le_of_ble_eq_true rfl); have zz10 := Zr.r (n := 17) (k := 11) (j := 4) (x := some 9) zz9 (Nat.le_of_ble_eq_true rfl); zz10
theorem ci_12_X3_init (I : WI) (L : WL) (R : WR) (hz : Zr 20 I L R) : Ct x_X3_init 2 [.ref 19] (yp 20) I L R 1 40 (none, yp 21, (u2 I 19 0 (-1)), L, (u2 R 19 2 (some 20))) :=
  Ct_of_V mo_X3_init.1 (Nat.le_of_ble_eq_true rfl) (V_aload_n (tat ok_X3_init_0 (i := 0) (q := 1) rfl rfl) 0 rfl rfl <|
    V_obj (tat ok_X3_init_0 (i := 1) (q := 4) rfl rfl) ml_X3_3 rfl ⟨(Nat.le_of_ble_eq_true rfl), (Nat.le_of_ble_eq_true rfl)⟩ <|
    V_aload_n (tat ok_X3_init_0 (i := 2) (q := 5) rfl rfl) 0 rfl rfl <|
    V_iconst (tat ok_X3_init_0 (i := 3) (q := 6) rfl rfl) ic_m1 <|
    V_putI (tat ok_X3_init_0 (i := 4) (q := 9) rfl rfl) fk_X3_9 rfl rfl <|
    have zz1 := Zr.i (n := 20) (k := 19) (j := 0) (x := (-1)) hz (Nat.le_of_ble_eq_true rfl); V_aload_n (tat ok_X3_init_0 (i := 5) (q := 10) rfl rfl) 0 rfl rfl <|
    V_bipush (tat ok_X3_init_0 (i := 6) (q := 12) rfl rfl) bp_40 <|
    V_newaN (atype := .int) (ty := .int) 20 (yp 21) rfl rfl rfl (tat ok_X3_init_0 (i := 7) (q := 14) rfl rfl) (gw_in ac_int rfl) (by decide) (by decide) (by decide) ⟨(Nat.le_of_ble_eq_true rfl), (Nat.le_of_ble_eq_true rfl)⟩ (by decide) (Or.inl ⟨rfl, rfl⟩) zz1 <|
    have zz2 := Zr.up (n := 20) (m := 21) zz1 (Nat.le_of_ble_eq_true rfl); V_putR cf_X3 (j := 2) (by decide) (tat ok_X3_init_0 (i := 8) (q := 17) rfl rfl) (gw_in fl_X3_15 rfl) rfl rfl rfl rfl rfl (by decide) <|
    have zz3 := Zr.r (n := 21) (k := 19) (j := 2) (x := some 20) zz2 (Nat.le_of_ble_eq_true rfl); V_vret (tat ok_X3_init_0 (i := 9) (q := 18) rfl rfl) rfl rfl ⟨(Nat.le_of_ble_eq_true rfl), (Nat.le_of_ble_eq_true rfl)⟩)
theorem ci_12_X3_init_z {I : WI} {L : WL} {R : WR} (hz : Zr 20 I L R) : Zr 21 (u2 I 19 0 (-1)) L (u2 R 19 2 (some 20)) := have zz1 := Zr.i (n := 20) (k := 19) (j := 0) (x := (-1)) hz (Nat.le_of_ble_eq_true rfl); have zz2 := Zr.up (n := 20) (m := 21) zz1 (Nat.le_of_ble_eq_true rfl); have zz3 := Zr.r (n := 21) (k := 19) (j := 2) (x := some 20) zz2 (Nat.le_of_ble_eq_true rfl); zz3
theorem ci_13_X3_init (I : WI) (L : WL) (R : WR) (hz : Zr 22 I L R) : Ct x_X3_init 2 [.ref 21] (yp 22) I L R 1 40 (none, yp 23, (u2 I 21 0 (-1)), L, (u2 R 21 2 (some 22))) :=
  Ct_of_V mo_X3_init.1 (Nat.le_of_ble_eq_true rfl) (V_aload_n (tat ok_X3_init_0 (i := 0) (q := 1) rfl rfl) 0 rfl rfl <|
    V_obj (tat ok_X3_init_0 (i := 1) (q := 4) rfl rfl) ml_X3_3 rfl ⟨(Nat.le_of_ble_eq_true rfl), (Nat.le_of_ble_eq_true rfl)⟩ <|
    V_aload_n (tat ok_X3_init_0 (i := 2) (q := 5) rfl rfl) 0 rfl rfl <|
    V_iconst (tat ok_X3_init_0 (i := 3) (q := 6) rfl rfl) ic_m1 <|
    V_putI (tat ok_X3_init_0 (i := 4) (q := 9) rfl rfl) fk_X3_9 rfl rfl <|
    have zz1 := Zr.i (n := 22) (k := 21) (j := 0) (x := (-1)) hz (Nat.le_of_ble_eq_true rfl); V_aload_n (tat ok_X3_init_0 (i := 5) (q := 10) rfl rfl) 0 rfl rfl <|
    V_bipush (tat ok_X3_init_0 (i := 6) (q := 12) rfl rfl) bp_40 <|
    V_newaN (atype := .int) (ty := .int) 22 (yp 23) rfl rfl rfl (tat ok_X3_init_0 (i := 7) (q := 14) rfl rfl) (gw_in ac_int rfl) (by decide) (by decide) (by decide) ⟨(Nat.le_of_ble_eq_true rfl), (Nat.le_of_ble_eq_true rfl)⟩ (by decide) (Or.inl ⟨rfl, rfl⟩) zz1 <|
    have zz2 := Zr.up (n := 22) (m := 23) zz1 (Nat.le_of_ble_eq_true rfl); V_putR cf_X3 (j := 2) (by decide) (tat ok_X3_init_0 (i := 8) (q := 17) rfl rfl) (gw_in fl_X3_15 rfl) rfl rfl rfl rfl rfl (by decide) <|
    have zz3 := Zr.r (n := 23) (k := 21) (j := 2) (x := some 22) zz2 (Nat.le_of_ble_eq_true rfl); V_vret (tat ok_X3_init_0 (i := 9) (q := 18) rfl rfl) rfl rfl ⟨(Nat.le_of_ble_eq_true rfl), (Nat.le_of_ble_eq_true rfl)⟩)
theorem ci_13_X3_init_z {I : WI} {L : WL} {R : WR} (hz : Zr 22 I L R) : Zr 23 (u2 I 21 0 (-1)) L (u2 R 21 2 (some 22)) := have zz1 := Zr.i (n := 22) (k := 21) (j := 0) (x := (-1)) hz (Nat.le_of_ble_eq_true rfl); have zz2 := Zr.up (n := 22) (m := 23) zz1 (Nat.le_of_ble_eq_true rfl); have zz3 := Zr.r (n := 23) (k := 21) (j := 2) (x := some 22) zz2 (Nat.le_of_ble_eq_true rfl); zz3
theorem ci_14_X3_init (I : WI) (L : WL) (R : WR) (hz : Zr 24 I L R) : Ct x_X3_init 2 [.ref 23] (yp 24) I L R 1 40 (none, yp 25, (u2 I 23 0 (-1)), L, (u2 R 23 2 (some 24))) :=
  Ct_of_V mo_X3_init.1 (Nat.le_of_ble_eq_true rfl) (V_aload_n (tat ok_X3_init_0 (i := 0) (q := 1) rfl rfl) 0 rfl rfl <|
    V_obj (tat ok_X3_init_0 (i := 1) (q := 4) rfl rfl) ml_X3_3 rfl ⟨(Nat.le_of_ble_eq_true rfl), (Nat.le_of_ble_eq_true rfl)⟩ <|
    V_aload_n (tat ok_X3_init_0 (i := 2) (q := 5) rfl rfl) 0 rfl rfl <|
    V_iconst (tat ok_X3_init_0 (i := 3) (q := 6) rfl rfl) ic_m1 <|
    V_putI (tat ok_X3_init_0 (i := 4) (q := 9) rfl rfl) fk_X3_9 rfl rfl <|
    have zz1 := Zr.i (n := 24) (k := 23) (j := 0) (x := (-1)) hz (Nat.le_of_ble_eq_true rfl); V_aload_n (tat ok_X3_init_0 (i := 5) (q := 10) rfl rfl) 0 rfl rfl <|
    V_bipush (tat ok_X3_init_0 (i := 6) (q := 12) rfl rfl) bp_40 <|
    V_newaN (atype := .int) (ty := .int) 24 (yp 25) rfl rfl rfl (tat ok_X3_init_0 (i := 7) (q := 14) rfl rfl) (gw_in ac_int rfl) (by decide) (by decide) (by decide) ⟨(Nat.le_of_ble_eq_true rfl), (Nat.le_of_ble_eq_true rfl)⟩ (by decide) (Or.inl ⟨rfl, rfl⟩) zz1 <|
    have zz2 := Zr.up (n := 24) (m := 25) zz1 (Nat.le_of_ble_eq_true rfl); V_putR cf_X3 (j := 2) (by decide) (tat ok_X3_init_0 (i := 8) (q := 17) rfl rfl) (gw_in fl_X3_15 rfl) rfl rfl rfl rfl rfl (by decide) <|
    have zz3 := Zr.r (n := 25) (k := 23) (j := 2) (x := some 24) zz2 (Nat.le_of_ble_eq_true rfl); V_vret (tat ok_X3_init_0 (i := 9) (q := 18) rfl rfl) rfl rfl ⟨(Nat.le_of_ble_eq_true rfl), (Nat.le_of_ble_eq_true rfl)⟩)
theorem ci_14_X3_init_z {I : WI} {L : WL} {R : WR} (hz : Zr 24 I L R) : Zr 25 (u2 I 23 0 (-1)) L (u2 R 23 2 (some 24)) := have zz1 := Zr.i (n := 24) (k := 23) (j := 0) (x := (-1)) hz (Nat.le_of_ble_eq_true rfl); have zz2 := Zr.up (n := 24) (m := 25) zz1 (Nat.le_of_ble_eq_true rfl); have zz3 := Zr.r (n := 25) (k := 23) (j := 2) (x := some 24) zz2 (Nat.le_of_ble_eq_true rfl); zz3
theorem ci_15_X3_init (I : WI) (L : WL) (R : WR) (hz : Zr 26 I L R) : Ct x_X3_init 2 [.ref 25] (yp 26) I L R 1 40 (none, yp 27, (u2 I 25 0 (-1)), L, (u2 R 25 2 (some 26))) :=
  Ct_of_V mo_X3_init.1 (Nat.le_of_ble_eq_true rfl) (V_aload_n (tat ok_X3_init_0 (i := 0) (q := 1) rfl rfl) 0 rfl rfl <|
    V_obj (tat ok_X3_init_0 (i := 1) (q := 4) rfl rfl) ml_X3_3 rfl ⟨(Nat.le_of_ble_eq_true rfl), (Nat.le_of_ble_eq_true rfl)⟩ <|
    V_aload_n (tat ok_X3_init_0 (i := 2) (q := 5) rfl rfl) 0 rfl rfl <|
    V_iconst (tat ok_X3_init_0 (i := 3) (q := 6) rfl rfl) ic_m1 <|
    V_putI (tat ok_X3_init_0 (i := 4) (q := 9) rfl rfl) fk_X3_9 rfl rfl <|
    have zz1 := Zr.i (n := 26) (k := 25) (j := 0) (x := (-1)) hz (Nat.le_of_ble_eq_true rfl); V_aload_n (tat ok_X3_init_0 (i := 5) (q := 10) rfl rfl) 0 rfl rfl <|
    V_bipush (tat ok_X3_init_0 (i := 6) (q := 12) rfl rfl) bp_40 <|
    V_newaN (atype := .int) (ty := .int) 26 (yp 27) rfl rfl rfl (tat ok_X3_init_0 (i := 7) (q := 14) rfl rfl) (gw_in ac_int rfl) (by decide) (by decide) (by decide) ⟨(Nat.le_of_ble_eq_true rfl), (Nat.le_of_ble_eq_true rfl)⟩ (by decide) (Or.inl ⟨rfl, rfl⟩) zz1 <|
    have zz2 := Zr.up (n := 26) (m := 27) zz1 (Nat.le_of_ble_eq_true rfl); V_putR cf_X3 (j := 2) (by decide) (tat ok_X3_init_0 (i := 8) (q := 17) rfl rfl) (gw_in fl_X3_15 rfl) rfl rfl rfl rfl rfl (by decide) <|
    have zz3 := Zr.r (n := 27) (k := 25) (j := 2) (x := some 26) zz2 (Nat.le_of_ble_eq_true rfl); V_vret (tat ok_X3_init_0 (i := 9) (q := 18) rfl rfl) rfl rfl ⟨(Nat.le_of_ble_eq_true rfl), (Nat.le_of_ble_eq_true rfl)⟩)
theorem ci_15_X3_init_z {I : WI} {L : WL} {R : WR} (hz : Zr 26 I L R) : Zr 27 (u2 I 25 0 (-1)) L (u2 R 25 2 (some 26)) := have zz1 := Zr.i (n := 26) (k := 25) (j := 0) (x := (-1)) hz (Nat.le_of_ble_eq_true rfl); have zz2 := Zr.up (n := 26) (m := 27) zz1 (Nat.le_of_ble_eq_true rfl); have zz3 := Zr.r (n := 27) (k := 25) (j := 2) (x := some 26) zz2 (Nat.le_of_ble_eq_true rfl); zz3
theorem ci_16_X4_init (I : WI) (L : WL) (R : WR) (hz : Zr 18 I L R) : Ct x_X4_init 3 [.ref 17] (yp 18) I L R 9 176 (none, yp 27, (u2 (u2 (u2 (u2 I 19 0 (-1)) 21 0 (-1)) 23 0 (-1)) 25 0 (-1)), L, (u2 (u2 (u2 (u2 (u2 (u2 (u2 (u2 (u2 R 17 0 (some 18)) 19 2 (some 20)) 18 (Int32.toNatClampNeg 0) (some 19)) 21 2 (some 22)) 18 (Int32.toNatClampNeg 1) (some 21)) 23 2 (some 24)) 18 (Int32.toNatClampNeg 2) (some 23)) 25 2 (some 26)) 18 (Int32.toNatClampNeg 3) (some 25))) :=
  Ct_of_V mo_X4_init.1 (Nat.le_of_ble_eq_true rfl) (V_aload_n (tat ok_X4_init_0 (i := 0) (q := 1) rfl rfl) 0 rfl rfl <|
    V_obj (tat ok_X4_init_0 (i := 1) (q := 4) rfl rfl) ml_X4_3 rfl ⟨(Nat.le_of_ble_eq_true rfl), (Nat.le_of_ble_eq_true rfl)⟩ <|
    V_aload_n (tat ok_X4_init_0 (i := 2) (q := 5) rfl rfl) 0 rfl rfl <|
    V_iconst (tat ok_X4_init_0 (i := 3) (q := 6) rfl rfl) ic_4 <|
    V_anewN 18 (yp 19) rfl rfl (tat ok_X4_init_0 (i := 4) (q := 9) rfl rfl) (gw_in cl_X4_9 rfl) (by decide) (by decide) (by decide) ⟨(Nat.le_of_ble_eq_true rfl), (Nat.le_of_ble_eq_true rfl)⟩ (by decide) hz <|
    have zz1 := Zr.up (n := 18) (m := 19) hz (Nat.le_of_ble_eq_true rfl); V_putR cf_X4 (j := 0) (by decide) (tat ok_X4_init_0 (i := 5) (q := 12) rfl rfl) (gw_in fl_X4_11 rfl) rfl rfl rfl rfl rfl (by decide) <|
    have zz2 := Zr.r (n := 19) (k := 17) (j := 0) (x := some 18) zz1 (Nat.le_of_ble_eq_true rfl); V_iconst (tat ok_X4_init_0 (i := 6) (q := 13) rfl rfl) ic_0 <|
    V_istore_n (lv' := [(1, .int 0), (0, .ref 17)]) (tat ok_X4_init_0 (i := 7) (q := 14) rfl rfl) rfl (Nat.le_of_ble_eq_true rfl) rfl <|
    V_iload_n (tat ok_X4_init_0 (i := 8) (q := 15) rfl rfl) 0 rfl rfl <|
    V_aload_n (tat ok_X4_init_0 (i := 9) (q := 16) rfl rfl) 1 rfl rfl <|
    V_getR (tat ok_X4_init_0 (i := 10) (q := 19) rfl rfl) fk_X4_11 rfl rfl <|
    V_alen (tat ok_X4_init_0 (i := 11) (q := 20) rfl rfl) rfl ⟨by decide, by decide⟩ nl_4 <|
    V_icmp_ge (tat ok_X4_init_0 (i := 12) (q := 23) rfl rfl) rfl (fun c => absurd c (by decide)) (fun _ => V_aload_n (tat ok_X4_init_0 (i := 13) (q := 24) rfl rfl) 1 rfl rfl <|
    V_getR (tat ok_X4_init_0 (i := 14) (q := 27) rfl rfl) fk_X4_11 rfl rfl <|
    V_iload_n (tat ok_X4_init_0 (i := 15) (q := 28) rfl rfl) 0 rfl rfl <|
    V_newN 19 (yp 20) rfl rfl cf_X3 (tat ok_X4_init_0 (i := 16) (q := 31) rfl rfl) (gw_in cl_X4_9 rfl) (gw_in is_X3 rfl) (gw_in ii_X3 rfl) ⟨(Nat.le_of_ble_eq_true rfl), (Nat.le_of_ble_eq_true rfl)⟩ (by decide) zz2 (by decide +kernel) <|
    have zz3 := Zr.up (n := 19) (m := 20) zz2 (Nat.le_of_ble_eq_true rfl); V_dup (tat ok_X4_init_0 (i := 17) (q := 32) rfl rfl) rfl <|
    V_callIN (As := []) (ci_12_X3_init I L (u2 R 17 0 (some 18)) zz3) mo_X3_init rfl (tat ok_X4_init_0 (i := 18) (q := 35) rfl rfl) (Or.inr ⟨RX8, List.mem_of_getElem? (l := nests) (i := 3) rfl⟩) rfl rfl ⟨(Nat.le_of_ble_eq_true rfl), (Nat.le_of_ble_eq_true rfl)⟩ ⟨(Nat.le_of_ble_eq_true rfl), (Nat.le_of_ble_eq_true rfl)⟩ (Nat.le_of_ble_eq_true rfl) rfl <|
    have zz4 := ci_12_X3_init_z zz3; V_aast (tat ok_X4_init_0 (i := 19) (q := 36) rfl rfl) rfl rfl (vp_in_nI (n := 0) (by decide) (by decide)) <|
    have zz5 := Zr.r (n := 21) (k := 18) (j := Int32.toNatClampNeg 0) (x := some 19) zz4 (Nat.le_of_ble_eq_true rfl); V_iinc (v := 1) (lv' := [(1, .int 1), (0, .ref 17)]) (tat ok_X4_init_0 (i := 20) (q := 39) rfl rfl) 0 rfl (by decide) (Nat.le_of_ble_eq_true rfl) rfl <|
    V_goto (tat ok_X4_init_0 (i := 21) (q := 42) rfl rfl) rfl <|
    V_iload_n (tat ok_X4_init_0 (i := 8) (q := 15) rfl rfl) 0 rfl rfl <|
    V_aload_n (tat ok_X4_init_0 (i := 9) (q := 16) rfl rfl) 1 rfl rfl <|
    V_getR (tat ok_X4_init_0 (i := 10) (q := 19) rfl rfl) fk_X4_11 rfl rfl <|
    V_alen (tat ok_X4_init_0 (i := 11) (q := 20) rfl rfl) rfl ⟨by decide, by decide⟩ nl_4 <|
    V_icmp_ge (tat ok_X4_init_0 (i := 12) (q := 23) rfl rfl) rfl (fun c => absurd c (by decide)) (fun _ => V_aload_n (tat ok_X4_init_0 (i := 13) (q := 24) rfl rfl) 1 rfl rfl <|
    V_getR (tat ok_X4_init_0 (i := 14) (q := 27) rfl rfl) fk_X4_11 rfl rfl <|
    V_iload_n (tat ok_X4_init_0 (i := 15) (q := 28) rfl rfl) 0 rfl rfl <|
    V_newN 21 (yp 22) rfl rfl cf_X3 (tat ok_X4_init_0 (i := 16) (q := 31) rfl rfl) (gw_in cl_X4_9 rfl) (gw_in is_X3 rfl) (gw_in ii_X3 rfl) ⟨(Nat.le_of_ble_eq_true rfl), (Nat.le_of_ble_eq_true rfl)⟩ (by decide) zz5 (by decide +kernel) <|
    have zz6 := Zr.up (n := 21) (m := 22) zz5 (Nat.le_of_ble_eq_true rfl); V_dup (tat ok_X4_init_0 (i := 17) (q := 32) rfl rfl) rfl <|
    V_callIN (As := []) (ci_13_X3_init (u2 I 19 0 (-1)) L (u2 (u2 (u2 R 17 0 (some 18)) 19 2 (some 20)) 18 (Int32.toNatClampNeg 0) (some 19)) zz6) mo_X3_init rfl (tat ok_X4_init_0 (i := 18) (q := 35) rfl rfl) (Or.inr ⟨RX8, List.mem_of_getElem? (l := nests) (i := 3) rfl⟩) rfl rfl ⟨(Nat.le_of_ble_eq_true rfl), (Nat.le_of_ble_eq_true rfl)⟩ ⟨(Nat.le_of_ble_eq_true rfl), (Nat.le_of_ble_eq_true rfl)⟩ (Nat.le_of_ble_eq_true rfl) rfl <|
    have zz7 := ci_13_X3_init_z zz6; V_aast (tat ok_X4_init_0 (i := 19) (q := 36) rfl rfl) rfl rfl (vp_in_nI (n := 1) (by decide) (by decide)) <|
    have zz8 := Zr.r (n := 23) (k := 18) (j := Int32.toNatClampNeg 1) (x := some 21) zz7 (Nat.le_of_ble_eq_true rfl); V_iinc (v := 2) (lv' := [(1, .int 2), (0, .ref 17)]) (tat ok_X4_init_0 (i := 20) (q := 39) rfl rfl) 0 rfl (by decide) (Nat.le_of_ble_eq_true rfl) rfl <|
    V_goto (tat ok_X4_init_0 (i := 21) (q := 42) rfl rfl) rfl <|
    V_iload_n (tat ok_X4_init_0 (i := 8) (q := 15) rfl rfl) 0 rfl rfl <|
    V_aload_n (tat ok_X4_init_0 (i := 9) (q := 16) rfl rfl) 1 rfl rfl <|
    V_getR (tat ok_X4_init_0 (i := 10) (q := 19) rfl rfl) fk_X4_11 rfl rfl <|
    V_alen (tat ok_X4_init_0 (i := 11) (q := 20) rfl rfl) rfl ⟨by decide, by decide⟩ nl_4 <|
    V_icmp_ge (tat ok_X4_init_0 (i := 12) (q := 23) rfl rfl) rfl (fun c => absurd c (by decide)) (fun _ => V_aload_n (tat ok_X4_init_0 (i := 13) (q := 24) rfl rfl) 1 rfl rfl <|
    V_getR (tat ok_X4_init_0 (i := 14) (q := 27) rfl rfl) fk_X4_11 rfl rfl <|
    V_iload_n (tat ok_X4_init_0 (i := 15) (q := 28) rfl rfl) 0 rfl rfl <|
    V_newN 23 (yp 24) rfl rfl cf_X3 (tat ok_X4_init_0 (i := 16) (q := 31) rfl rfl) (gw_in cl_X4_9 rfl) (gw_in is_X3 rfl) (gw_in ii_X3 rfl) ⟨(Nat.le_of_ble_eq_true rfl), (Nat.le_of_ble_eq_true rfl)⟩ (by decide) zz8 (by decide +kernel) <|
    have zz9 := Zr.up (n := 23) (m := 24) zz8 (Nat.le_of_ble_eq_true rfl); V_dup (tat ok_X4_init_0 (i := 17) (q := 32) rfl rfl) rfl <|
    V_callIN (As := []) (ci_14_X3_init (u2 (u2 I 19 0 (-1)) 21 0 (-1)) L (u2 (u2 (u2 (u2 (u2 R 17 0 (some 18)) 19 2 (some 20)) 18 (Int32.toNatClampNeg 0) (some 19)) 21 2 (some 22)) 18 (Int32.toNatClampNeg 1) (some 21)) zz9) mo_X3_init rfl (tat ok_X4_init_0 (i := 18) (q := 35) rfl rfl) (Or.inr ⟨RX8, List.mem_of_getElem? (l := nests) (i := 3) rfl⟩) rfl rfl ⟨(Nat.le_of_ble_eq_true rfl), (Nat.le_of_ble_eq_true rfl)⟩ ⟨(Nat.le_of_ble_eq_true rfl), (Nat.le_of_ble_eq_true rfl)⟩ (Nat.le_of_ble_eq_true rfl) rfl <|
    have zz10 := ci_14_X3_init_z zz9; V_aast (tat ok_X4_init_0 (i := 19) (q := 36) rfl rfl) rfl rfl (vp_in_nI (n := 2) (by decide) (by decide)) <|
    have zz11 := Zr.r (n := 25) (k := 18) (j := Int32.toNatClampNeg 2) (x := some 23) zz10 (Nat.le_of_ble_eq_true rfl); V_iinc (v := 3) (lv' := [(1, .int 3), (0, .ref 17)]) (tat ok_X4_init_0 (i := 20) (q := 39) rfl rfl) 0 rfl (by decide) (Nat.le_of_ble_eq_true rfl) rfl <|
    V_goto (tat ok_X4_init_0 (i := 21) (q := 42) rfl rfl) rfl <|
    V_iload_n (tat ok_X4_init_0 (i := 8) (q := 15) rfl rfl) 0 rfl rfl <|
    V_aload_n (tat ok_X4_init_0 (i := 9) (q := 16) rfl rfl) 1 rfl rfl <|
    V_getR (tat ok_X4_init_0 (i := 10) (q := 19) rfl rfl) fk_X4_11 rfl rfl <|
    V_alen (tat ok_X4_init_0 (i := 11) (q := 20) rfl rfl) rfl ⟨by decide, by decide⟩ nl_4 <|
    V_icmp_ge (tat ok_X4_init_0 (i := 12) (q := 23) rfl rfl) rfl (fun c => absurd c (by decide)) (fun _ => V_aload_n (tat ok_X4_init_0 (i := 13) (q := 24) rfl rfl) 1 rfl rfl <|
    V_getR (tat ok_X4_init_0 (i := 14) (q := 27) rfl rfl) fk_X4_11 rfl rfl <|
    V_iload_n (tat ok_X4_init_0 (i := 15) (q := 28) rfl rfl) 0 rfl rfl <|
    V_newN 25 (yp 26) rfl rfl cf_X3 (tat ok_X4_init_0 (i := 16) (q := 31) rfl rfl) (gw_in cl_X4_9 rfl) (gw_in is_X3 rfl) (gw_in ii_X3 rfl) ⟨(Nat.le_of_ble_eq_true rfl), (Nat.le_of_ble_eq_true rfl)⟩ (by decide) zz11 (by decide +kernel) <|
    have zz12 := Zr.up (n := 25) (m := 26) zz11 (Nat.le_of_ble_eq_true rfl); V_dup (tat ok_X4_init_0 (i := 17) (q := 32) rfl rfl) rfl <|
    V_callIN (As := []) (ci_15_X3_init (u2 (u2 (u2 I 19 0 (-1)) 21 0 (-1)) 23 0 (-1)) L (u2 (u2 (u2 (u2 (u2 (u2 (u2 R 17 0 (some 18)) 19 2 (some 20)) 18 (Int32.toNatClampNeg 0) (some 19)) 21 2 (some 22)) 18 (Int32.toNatClampNeg 1) (some 21)) 23 2 (some 24)) 18 (Int32.toNatClampNeg 2) (some 23)) zz12) mo_X3_init rfl (tat ok_X4_init_0 (i := 18) (q := 35) rfl rfl) (Or.inr ⟨RX8, List.mem_of_getElem? (l := nests) (i := 3) rfl⟩) rfl rfl ⟨(Nat.le_of_ble_eq_true rfl), (Nat.le_of_ble_eq_true rfl)⟩ ⟨(Nat.le_of_ble_eq_true rfl), (Nat.le_of_ble_eq_true rfl)⟩ (Nat.le_of_ble_eq_true rfl) rfl <|
    have zz13 := ci_15_X3_init_z zz12; V_aast (tat ok_X4_init_0 (i := 19) (q := 36) rfl rfl) rfl rfl (vp_in_nI (n := 3) (by decide) (by decide)) <|
    have zz14 := Zr.r (n := 27) (k := 18) (j := Int32.toNatClampNeg 3) (x := some 25) zz13 (Nat.le_of_ble_eq_true rfl); V_iinc (v := 4) (lv' := [(1, .int 4), (0, .ref 17)]) (tat ok_X4_init_0 (i := 20) (q := 39) rfl rfl) 0 rfl (by decide) (Nat.le_of_ble_eq_true rfl) rfl <|
    V_goto (tat ok_X4_init_0 (i := 21) (q := 42) rfl rfl) rfl <|
    V_iload_n (tat ok_X4_init_0 (i := 8) (q := 15) rfl rfl) 0 rfl rfl <|
    V_aload_n (tat ok_X4_init_0 (i := 9) (q := 16) rfl rfl) 1 rfl rfl <|
    V_getR (tat ok_X4_init_0 (i := 10) (q := 19) rfl rfl) fk_X4_11 rfl rfl <|
    V_alen (tat ok_X4_init_0 (i := 11) (q := 20) rfl rfl) rfl ⟨by decide, by decide⟩ nl_4 <|
    V_icmp_ge (tat ok_X4_init_0 (i := 12) (q := 23) rfl rfl) rfl (fun _ => V_vret (tat ok_X4_init_0 (i := 22) (q := 43) rfl rfl) rfl rfl ⟨(Nat.le_of_ble_eq_true rfl), (Nat.le_of_ble_eq_true rfl)⟩) (fun c => absurd (by decide) c))))))
theorem ci_16_X4_init_z {I : WI} {L : WL} {R : WR} (hz : Zr 18 I L R) : Zr 27 (u2 (u2 (u2 (u2 I 19 0 (-1)) 21 0 (-1)) 23 0 (-1)) 25 0 (-1)) L (u2 (u2 (u2 (u2 (u2 (u2 (u2 (u2 (u2 R 17 0 (some 18)) 19 2 (some 20)) 18 (Int32.toNatClampNeg 0) (some 19)) 21 2 (some 22)) 18 (Int32.toNatClampNeg 1) (some 21)) 23 2 (some 24)) 18 (Int32.toNatClampNeg 2) (some 23)) 25 2 (some 26)) 18 (Int32.toNatClampNeg 3) (some 25)) := have zz1 := Zr.up (n := 18) (m := 19) hz (Nat.le_of_ble_eq_true rfl); have zz2 := Zr.r (n := 19) (k := 17) (j := 0) (x := some 18) zz1 (Nat.le_of_ble_eq_true rfl); have zz3 := Zr.up (n := 19) (m := 20) zz2 (Nat.le_of_ble_eq_true rfl); have zz4 := ci_12_X3_init_z zz3; have zz5 := Zr.r (n := 21) (k := 18) (j := Int32.toNatClampNeg 0) (x := some 19) zz4 (Nat.le_of_ble_eq_true rfl); have zz6 := Zr.up (n := 21) (m := 22) zz5 (Nat.le_of_ble_eq_true rfl); have zz7 := ci_13_X3_init_z zz6; have zz8 := Zr.r (n := 23) (k := 18) (j := Int32.toNatClampNeg 1) (x := some 21) zz7 (Nat.le_of_ble_eq_true rfl); have zz9 := Zr.up (n := 23) (m := 24) zz8 (Nat.le_of_ble_eq_true rfl); have zz10 := ci_14_X3_init_z zz9; have zz11 := Zr.r (n := 25) (k := 18) (j := Int32.toNatClampNeg 2) (x := some 23) zz10 (Nat.le_of_ble_eq_true rfl); have zz12 := Zr.up (n := 25) (m := 26) zz11 (Nat.le_of_ble_eq_true rfl); have zz13 := ci_15_X3_init_z zz12; have zz14 := Zr.r (n := 27) (k := 18) (j := Int32.toNatClampNeg 3) (x := some 25) zz13 (Nat.le_of_ble_eq_true rfl); zz14
theorem ci_17_X7_init (I : WI) (L : WL) (R : WR) (hz : Zr 28 I L R) : Ct x_X7_init 2 [.ref 27] (yp 28) I L R 2 79 (none, yp 30, I, L, (u2 (u2 R 27 8 (some 28)) 27 9 (some 29))) :=
  Ct_of_V mo_X7_init.1 (Nat.le_of_ble_eq_true rfl) (V_aload_n (tat ok_X7_init_0 (i := 0) (q := 1) rfl rfl) 0 rfl rfl <|
    V_obj (tat ok_X7_init_0 (i := 1) (q := 4) rfl rfl) ml_X7_3 rfl ⟨(Nat.le_of_ble_eq_true rfl), (Nat.le_of_ble_eq_true rfl)⟩ <|
    V_aload_n (tat ok_X7_init_0 (i := 2) (q := 5) rfl rfl) 0 rfl rfl <|
    V_bipush (tat ok_X7_init_0 (i := 3) (q := 7) rfl rfl) bp_15 <|
    V_newaN (atype := .long) (ty := .long) 28 (yp 29) rfl rfl rfl (tat ok_X7_init_0 (i := 4) (q := 9) rfl rfl) (gw_in ac_long rfl) (by decide) (by decide) (by decide) ⟨(Nat.le_of_ble_eq_true rfl), (Nat.le_of_ble_eq_true rfl)⟩ (by decide) (Or.inr (Or.inl ⟨rfl, rfl⟩)) hz <|
    have zz1 := Zr.up (n := 28) (m := 29) hz (Nat.le_of_ble_eq_true rfl); V_putR cf_X7 (j := 8) (by decide) (tat ok_X7_init_0 (i := 5) (q := 12) rfl rfl) (gw_in fl_X7_9 rfl) rfl rfl rfl rfl rfl (by decide) <|
    have zz2 := Zr.r (n := 29) (k := 27) (j := 8) (x := some 28) zz1 (Nat.le_of_ble_eq_true rfl); V_aload_n (tat ok_X7_init_0 (i := 6) (q := 13) rfl rfl) 0 rfl rfl <|
    V_bipush (tat ok_X7_init_0 (i := 7) (q := 15) rfl rfl) bp_64 <|
    V_newaN (atype := .long) (ty := .long) 29 (yp 30) rfl rfl rfl (tat ok_X7_init_0 (i := 8) (q := 17) rfl rfl) (gw_in ac_long rfl) (by decide) (by decide) (by decide) ⟨(Nat.le_of_ble_eq_true rfl), (Nat.le_of_ble_eq_true rfl)⟩ (by decide) (Or.inr (Or.inl ⟨rfl, rfl⟩)) zz2 <|
    have zz3 := Zr.up (n := 29) (m := 30) zz2 (Nat.le_of_ble_eq_true rfl); V_putR cf_X7 (j := 9) (by decide) (tat ok_X7_init_0 (i := 9) (q := 20) rfl rfl) (gw_in fl_X7_15 rfl) rfl rfl rfl rfl rfl (by decide) <|
    have zz4 := Zr.r (n := 30) (k := 27) (j := 9) (x := some 29) zz3 (Nat.le_of_ble_eq_true rfl); V_vret (tat ok_X7_init_0 (i := 10) (q := 21) rfl rfl) rfl rfl ⟨(Nat.le_of_ble_eq_true rfl), (Nat.le_of_ble_eq_true rfl)⟩)
theorem ci_17_X7_init_z {I : WI} {L : WL} {R : WR} (hz : Zr 28 I L R) : Zr 30 I L (u2 (u2 R 27 8 (some 28)) 27 9 (some 29)) := have zz1 := Zr.up (n := 28) (m := 29) hz (Nat.le_of_ble_eq_true rfl); have zz2 := Zr.r (n := 29) (k := 27) (j := 8) (x := some 28) zz1 (Nat.le_of_ble_eq_true rfl); have zz3 := Zr.up (n := 29) (m := 30) zz2 (Nat.le_of_ble_eq_true rfl); have zz4 := Zr.r (n := 30) (k := 27) (j := 9) (x := some 29) zz3 (Nat.le_of_ble_eq_true rfl); zz4
theorem ci_18_X2_init (I : WI) (L : WL) (R : WR) (hz : Zr 31 I L R) : Ct x_X2_init 2 [.ref 30] (yp 31) I L R 0 0 (none, yp 31, I, L, R) :=
  Ct_of_V mo_X2_init.1 (Nat.le_of_ble_eq_true rfl) (V_aload_n (tat ok_X2_init_0 (i := 0) (q := 1) rfl rfl) 0 rfl rfl <|
    V_obj (tat ok_X2_init_0 (i := 1) (q := 4) rfl rfl) ml_X2_3 rfl ⟨(Nat.le_of_ble_eq_true rfl), (Nat.le_of_ble_eq_true rfl)⟩ <|
    V_vret (tat ok_X2_init_0 (i := 2) (q := 5) rfl rfl) rfl rfl ⟨(Nat.le_of_ble_eq_true rfl), (Nat.le_of_ble_eq_true rfl)⟩)
theorem ci_18_X2_init_z {I : WI} {L : WL} {R : WR} (hz : Zr 31 I L R) : Zr 31 I L R := hz
theorem ci_19_X2_init (I : WI) (L : WL) (R : WR) (hz : Zr 32 I L R) : Ct x_X2_init 2 [.ref 31] (yp 32) I L R 0 0 (none, yp 32, I, L, R) :=
  Ct_of_V mo_X2_init.1 (Nat.le_of_ble_eq_true rfl) (V_aload_n (tat ok_X2_init_0 (i := 0) (q := 1) rfl rfl) 0 rfl rfl <|
    V_obj (tat ok_X2_init_0 (i := 1) (q := 4) rfl rfl) ml_X2_3 rfl ⟨(Nat.le_of_ble_eq_true rfl), (Nat.le_of_ble_eq_true rfl)⟩ <|
    V_vret (tat ok_X2_init_0 (i := 2) (q := 5) rfl rfl) rfl rfl ⟨(Nat.le_of_ble_eq_true rfl), (Nat.le_of_ble_eq_true rfl)⟩)
theorem ci_19_X2_init_z {I : WI} {L : WL} {R : WR} (hz : Zr 32 I L R) : Zr 32 I L R := hz
theorem ci_20_X8_init (I : WI) (L : WL) (R : WR) (hz : Zr 1 I L R) : Ct x_X8_init 4 [.ref 0] (yp 1) I L R 32 767 (none, yp 33, (u2 (u2 (u2 (u2 (u2 (u2 (u2 (u2 (u2 (u2 (u2 (u2 (u2 (u2 (u2 (u2 (u2 (u2 (u2 (u2 (u2 (u2 (u2 (u2 (u2 I 1 1 4) 1 2 4) 1 0 1) 2 1 4) 2 2 4) 2 0 0) 3 1 4) 3 2 4) 3 0 0) 4 1 4) 4 2 4) 4 0 0) 5 1 4) 5 2 4) 5 0 1) 12 1 4) 12 2 4) 12 0 0) 13 1 4) 13 2 4) 13 0 0) 19 0 (-1)) 21 0 (-1)) 23 0 (-1)) 25 0 (-1)), L, (u2 (u2 (u2 (u2 (u2 (u2 (u2 (u2 (u2 (u2 (u2 (u2 (u2 (u2 (u2 (u2 (u2 (u2 (u2 (u2 (u2 (u2 (u2 (u2 (u2 (u2 (u2 (u2 (u2 (u2 (u2 (u2 (u2 R 0 0 (some 1)) 0 1 (some 2)) 0 2 (some 3)) 0 3 (some 4)) 0 4 (some 5)) 6 1 (some 7)) 6 2 (some 8)) 0 5 (some 6)) 9 1 (some 10)) 0 6 (some 9)) 11 0 (some 12)) 11 1 (some 13)) 14 1 (some 15)) 14 2 (some 16)) 11 2 (some 14)) 11 4 (some 9)) 0 7 (some 11)) 17 0 (some 18)) 19 2 (some 20)) 18 (Int32.toNatClampNeg 0) (some 19)) 21 2 (some 22)) 18 (Int32.toNatClampNeg 1) (some 21)) 23 2 (some 24)) 18 (Int32.toNatClampNeg 2) (some 23)) 25 2 (some 26)) 18 (Int32.toNatClampNeg 3) (some 25)) 0 8 (some 17)) 27 8 (some 28)) 27 9 (some 29)) 0 9 (some 27)) 0 10 (some 30)) 0 11 (some 31)) 0 12 (some 32))) :=
  Ct_of_V mo_X8_init.1 (Nat.le_of_ble_eq_true rfl) (V_aload_n (tat ok_X8_init_0 (i := 0) (q := 1) rfl rfl) 0 rfl rfl <|
    V_obj (tat ok_X8_init_0 (i := 1) (q := 4) rfl rfl) ml_X8_3 rfl ⟨(Nat.le_of_ble_eq_true rfl), (Nat.le_of_ble_eq_true rfl)⟩ <|
    V_aload_n (tat ok_X8_init_0 (i := 2) (q := 5) rfl rfl) 0 rfl rfl <|
    V_newN 1 (yp 2) rfl rfl cf_X0 (tat ok_X8_init_0 (i := 3) (q := 8) rfl rfl) (gw_in cl_X8_9 rfl) (gw_in is_X0 rfl) (gw_in ii_X0 rfl) ⟨(Nat.le_of_ble_eq_true rfl), (Nat.le_of_ble_eq_true rfl)⟩ (by decide) hz (by decide +kernel) <|
    have zz1 := Zr.up (n := 1) (m := 2) hz (Nat.le_of_ble_eq_true rfl); V_dup (tat ok_X8_init_0 (i := 4) (q := 9) rfl rfl) rfl <|
    V_iconst (tat ok_X8_init_0 (i := 5) (q := 10) rfl rfl) ic_1 <|
    V_callIN (As := [.int 1]) (ci_1_X0_init I L R zz1) mo_X0_init rfl (tat ok_X8_init_0 (i := 6) (q := 13) rfl rfl) (Or.inl ml_X8_11) rfl rfl ⟨(Nat.le_of_ble_eq_true rfl), (Nat.le_of_ble_eq_true rfl)⟩ ⟨(Nat.le_of_ble_eq_true rfl), (Nat.le_of_ble_eq_true rfl)⟩ (Nat.le_of_ble_eq_true rfl) rfl <|
    have zz2 := ci_1_X0_init_z zz1; V_putR cf_X8 (j := 0) (by decide) (tat ok_X8_init_0 (i := 7) (q := 16) rfl rfl) (gw_in fl_X8_14 rfl) rfl rfl rfl rfl rfl (by decide) <|
    have zz3 := Zr.r (n := 2) (k := 0) (j := 0) (x := some 1) zz2 (Nat.le_of_ble_eq_true rfl); V_aload_n (tat ok_X8_init_0 (i := 8) (q := 17) rfl rfl) 0 rfl rfl <|
    V_newN 2 (yp 3) rfl rfl cf_X0 (tat ok_X8_init_0 (i := 9) (q := 20) rfl rfl) (gw_in cl_X8_9 rfl) (gw_in is_X0 rfl) (gw_in ii_X0 rfl) ⟨(Nat.le_of_ble_eq_true rfl), (Nat.le_of_ble_eq_true rfl)⟩ (by decide) zz3 (by decide +kernel) <|
    have zz4 := Zr.up (n := 2) (m := 3) zz3 (Nat.le_of_ble_eq_true rfl); V_dup (tat ok_X8_init_0 (i := 10) (q := 21) rfl rfl) rfl <|
    V_iconst (tat ok_X8_init_0 (i := 11) (q := 22) rfl rfl) ic_0 <|
    V_callIN (As := [.int 0]) (ci_2_X0_init (u2 (u2 (u2 I 1 1 4) 1 2 4) 1 0 1) L (u2 R 0 0 (some 1)) zz4) mo_X0_init rfl (tat ok_X8_init_0 (i := 12) (q := 25) rfl rfl) (Or.inl ml_X8_11) rfl rfl ⟨(Nat.le_of_ble_eq_true rfl), (Nat.le_of_ble_eq_true rfl)⟩ ⟨(Nat.le_of_ble_eq_true rfl), (Nat.le_of_ble_eq_true rfl)⟩ (Nat.le_of_ble_eq_true rfl) rfl <|
    have zz5 := ci_2_X0_init_z zz4; V_putR cf_X8 (j := 1) (by decide) (tat ok_X8_init_0 (i := 13) (q := 28) rfl rfl) (gw_in fl_X8_18 rfl) rfl rfl rfl rfl rfl (by decide) <|
    have zz6 := Zr.r (n := 3) (k := 0) (j := 1) (x := some 2) zz5 (Nat.le_of_ble_eq_true rfl); V_aload_n (tat ok_X8_init_0 (i := 14) (q := 29) rfl rfl) 0 rfl rfl <|
    V_newN 3 (yp 4) rfl rfl cf_X0 (tat ok_X8_init_0 (i := 15) (q := 32) rfl rfl) (gw_in cl_X8_9 rfl) (gw_in is_X0 rfl) (gw_in ii_X0 rfl) ⟨(Nat.le_of_ble_eq_true rfl), (Nat.le_of_ble_eq_true rfl)⟩ (by decide) zz6 (by decide +kernel) <|
    have zz7 := Zr.up (n := 3) (m := 4) zz6 (Nat.le_of_ble_eq_true rfl); V_dup (tat ok_X8_init_0 (i := 16) (q := 33) rfl rfl) rfl <|
    V_iconst (tat ok_X8_init_0 (i := 17) (q := 34) rfl rfl) ic_0 <|
    V_callIN (As := [.int 0]) (ci_3_X0_init (u2 (u2 (u2 (u2 (u2 (u2 I 1 1 4) 1 2 4) 1 0 1) 2 1 4) 2 2 4) 2 0 0) L (u2 (u2 R 0 0 (some 1)) 0 1 (some 2)) zz7) mo_X0_init rfl (tat ok_X8_init_0 (i := 18) (q := 37) rfl rfl) (Or.inl ml_X8_11) rfl rfl ⟨(Nat.le_of_ble_eq_true rfl), (Nat.le_of_ble_eq_true rfl)⟩ ⟨(Nat.le_of_ble_eq_true rfl), (Nat.le_of_ble_eq_true rfl)⟩ (Nat.le_of_ble_eq_true rfl) rfl <|
    have zz8 := ci_3_X0_init_z zz7; V_putR cf_X8 (j := 2) (by decide) (tat ok_X8_init_0 (i := 19) (q := 40) rfl rfl) (gw_in fl_X8_21 rfl) rfl rfl rfl rfl rfl (by decide) <|
    have zz9 := Zr.r (n := 4) (k := 0) (j := 2) (x := some 3) zz8 (Nat.le_of_ble_eq_true rfl); V_aload_n (tat ok_X8_init_0 (i := 20) (q := 41) rfl rfl) 0 rfl rfl <|
    V_newN 4 (yp 5) rfl rfl cf_X0 (tat ok_X8_init_0 (i := 21) (q := 44) rfl rfl) (gw_in cl_X8_9 rfl) (gw_in is_X0 rfl) (gw_in ii_X0 rfl) ⟨(Nat.le_of_ble_eq_true rfl), (Nat.le_of_ble_eq_true rfl)⟩ (by decide) zz9 (by decide +kernel) <|
    have zz10 := Zr.up (n := 4) (m := 5) zz9 (Nat.le_of_ble_eq_true rfl); V_dup (tat ok_X8_init_0 (i := 22) (q := 45) rfl rfl) rfl <|
    V_iconst (tat ok_X8_init_0 (i := 23) (q := 46) rfl rfl) ic_0 <|
    V_callIN (As := [.int 0]) (ci_4_X0_init (u2 (u2 (u2 (u2 (u2 (u2 (u2 (u2 (u2 I 1 1 4) 1 2 4) 1 0 1) 2 1 4) 2 2 4) 2 0 0) 3 1 4) 3 2 4) 3 0 0) L (u2 (u2 (u2 R 0 0 (some 1)) 0 1 (some 2)) 0 2 (some 3)) zz10) mo_X0_init rfl (tat ok_X8_init_0 (i := 24) (q := 49) rfl rfl) (Or.inl ml_X8_11) rfl rfl ⟨(Nat.le_of_ble_eq_true rfl), (Nat.le_of_ble_eq_true rfl)⟩ ⟨(Nat.le_of_ble_eq_true rfl), (Nat.le_of_ble_eq_true rfl)⟩ (Nat.le_of_ble_eq_true rfl) rfl <|
    have zz11 := ci_4_X0_init_z zz10; V_putR cf_X8 (j := 3) (by decide) (tat ok_X8_init_0 (i := 25) (q := 52) rfl rfl) (gw_in fl_X8_24 rfl) rfl rfl rfl rfl rfl (by decide) <|
    have zz12 := Zr.r (n := 5) (k := 0) (j := 3) (x := some 4) zz11 (Nat.le_of_ble_eq_true rfl); V_aload_n (tat ok_X8_init_0 (i := 26) (q := 53) rfl rfl) 0 rfl rfl <|
    V_newN 5 (yp 6) rfl rfl cf_X0 (tat ok_X8_init_0 (i := 27) (q := 56) rfl rfl) (gw_in cl_X8_9 rfl) (gw_in is_X0 rfl) (gw_in ii_X0 rfl) ⟨(Nat.le_of_ble_eq_true rfl), (Nat.le_of_ble_eq_true rfl)⟩ (by decide) zz12 (by decide +kernel) <|
    have zz13 := Zr.up (n := 5) (m := 6) zz12 (Nat.le_of_ble_eq_true rfl); V_dup (tat ok_X8_init_0 (i := 28) (q := 57) rfl rfl) rfl <|
    V_iconst (tat ok_X8_init_0 (i := 29) (q := 58) rfl rfl) ic_1 <|
    V_callIN (As := [.int 1]) (ci_5_X0_init (u2 (u2 (u2 (u2 (u2 (u2 (u2 (u2 (u2 (u2 (u2 (u2 I 1 1 4) 1 2 4) 1 0 1) 2 1 4) 2 2 4) 2 0 0) 3 1 4) 3 2 4) 3 0 0) 4 1 4) 4 2 4) 4 0 0) L (u2 (u2 (u2 (u2 R 0 0 (some 1)) 0 1 (some 2)) 0 2 (some 3)) 0 3 (some 4)) zz13) mo_X0_init rfl (tat ok_X8_init_0 (i := 30) (q := 61) rfl rfl) (Or.inl ml_X8_11) rfl rfl ⟨(Nat.le_of_ble_eq_true rfl), (Nat.le_of_ble_eq_true rfl)⟩ ⟨(Nat.le_of_ble_eq_true rfl), (Nat.le_of_ble_eq_true rfl)⟩ (Nat.le_of_ble_eq_true rfl) rfl <|
    have zz14 := ci_5_X0_init_z zz13; V_putR cf_X8 (j := 4) (by decide) (tat ok_X8_init_0 (i := 31) (q := 64) rfl rfl) (gw_in fl_X8_27 rfl) rfl rfl rfl rfl rfl (by decide) <|
    have zz15 := Zr.r (n := 6) (k := 0) (j := 4) (x := some 5) zz14 (Nat.le_of_ble_eq_true rfl); V_aload_n (tat ok_X8_init_0 (i := 32) (q := 65) rfl rfl) 0 rfl rfl <|
    V_newN 6 (yp 7) rfl rfl cf_X1 (tat ok_X8_init_0 (i := 33) (q := 68) rfl rfl) (gw_in cl_X8_30 rfl) (gw_in is_X1 rfl) (gw_in ii_X1 rfl) ⟨(Nat.le_of_ble_eq_true rfl), (Nat.le_of_ble_eq_true rfl)⟩ (by decide) zz15 (by decide +kernel) <|
    have zz16 := Zr.up (n := 6) (m := 7) zz15 (Nat.le_of_ble_eq_true rfl); V_dup (tat ok_X8_init_0 (i := 34) (q := 69) rfl rfl) rfl <|
    V_callIN (As := []) (ci_6_X1_init (u2 (u2 (u2 (u2 (u2 (u2 (u2 (u2 (u2 (u2 (u2 (u2 (u2 (u2 (u2 I 1 1 4) 1 2 4) 1 0 1) 2 1 4) 2 2 4) 2 0 0) 3 1 4) 3 2 4) 3 0 0) 4 1 4) 4 2 4) 4 0 0) 5 1 4) 5 2 4) 5 0 1) L (u2 (u2 (u2 (u2 (u2 R 0 0 (some 1)) 0 1 (some 2)) 0 2 (some 3)) 0 3 (some 4)) 0 4 (some 5)) zz16) mo_X1_init rfl (tat ok_X8_init_0 (i := 35) (q := 72) rfl rfl) (Or.inr ⟨RX8, List.mem_of_getElem? (l := nests) (i := 0) rfl⟩) rfl rfl ⟨(Nat.le_of_ble_eq_true rfl), (Nat.le_of_ble_eq_true rfl)⟩ ⟨(Nat.le_of_ble_eq_true rfl), (Nat.le_of_ble_eq_true rfl)⟩ (Nat.le_of_ble_eq_true rfl) rfl <|
    have zz17 := ci_6_X1_init_z zz16; V_putR cf_X8 (j := 5) (by decide) (tat ok_X8_init_0 (i := 36) (q := 75) rfl rfl) (gw_in fl_X8_33 rfl) rfl rfl rfl rfl rfl (by decide) <|
    have zz18 := Zr.r (n := 9) (k := 0) (j := 5) (x := some 6) zz17 (Nat.le_of_ble_eq_true rfl); V_aload_n (tat ok_X8_init_0 (i := 37) (q := 76) rfl rfl) 0 rfl rfl <|
    V_newN 9 (yp 10) rfl rfl cf_X5 (tat ok_X8_init_0 (i := 38) (q := 79) rfl rfl) (gw_in cl_X8_37 rfl) (gw_in is_X5 rfl) (gw_in ii_X5 rfl) ⟨(Nat.le_of_ble_eq_true rfl), (Nat.le_of_ble_eq_true rfl)⟩ (by decide) zz18 (by decide +kernel) <|
    have zz19 := Zr.up (n := 9) (m := 10) zz18 (Nat.le_of_ble_eq_true rfl); V_dup (tat ok_X8_init_0 (i := 39) (q := 80) rfl rfl) rfl <|
    V_callIN (As := []) (ci_7_X5_init (u2 (u2 (u2 (u2 (u2 (u2 (u2 (u2 (u2 (u2 (u2 (u2 (u2 (u2 (u2 I 1 1 4) 1 2 4) 1 0 1) 2 1 4) 2 2 4) 2 0 0) 3 1 4) 3 2 4) 3 0 0) 4 1 4) 4 2 4) 4 0 0) 5 1 4) 5 2 4) 5 0 1) L (u2 (u2 (u2 (u2 (u2 (u2 (u2 (u2 R 0 0 (some 1)) 0 1 (some 2)) 0 2 (some 3)) 0 3 (some 4)) 0 4 (some 5)) 6 1 (some 7)) 6 2 (some 8)) 0 5 (some 6)) zz19) mo_X5_init rfl (tat ok_X8_init_1 (i := 0) (q := 83) rfl rfl) (Or.inr ⟨RX8, List.mem_of_getElem? (l := nests) (i := 1) rfl⟩) rfl rfl ⟨(Nat.le_of_ble_eq_true rfl), (Nat.le_of_ble_eq_true rfl)⟩ ⟨(Nat.le_of_ble_eq_true rfl), (Nat.le_of_ble_eq_true rfl)⟩ (Nat.le_of_ble_eq_true rfl) rfl <|
    have zz20 := ci_7_X5_init_z zz19; V_putR cf_X8 (j := 6) (by decide) (tat ok_X8_init_1 (i := 1) (q := 86) rfl rfl) (gw_in fl_X8_40 rfl) rfl rfl rfl rfl rfl (by decide) <|
    have zz21 := Zr.r (n := 11) (k := 0) (j := 6) (x := some 9) zz20 (Nat.le_of_ble_eq_true rfl); V_aload_n (tat ok_X8_init_1 (i := 2) (q := 87) rfl rfl) 0 rfl rfl <|
    V_newN 11 (yp 12) rfl rfl cf_X6 (tat ok_X8_init_1 (i := 3) (q := 90) rfl rfl) (gw_in cl_X8_44 rfl) (gw_in is_X6 rfl) (gw_in ii_X6 rfl) ⟨(Nat.le_of_ble_eq_true rfl), (Nat.le_of_ble_eq_true rfl)⟩ (by decide) zz21 (by decide +kernel) <|
    have zz22 := Zr.up (n := 11) (m := 12) zz21 (Nat.le_of_ble_eq_true rfl); V_dup (tat ok_X8_init_1 (i := 4) (q := 91) rfl rfl) rfl <|
    V_aload_n (tat ok_X8_init_1 (i := 5) (q := 92) rfl rfl) 0 rfl rfl <|
    V_getR (tat ok_X8_init_1 (i := 6) (q := 95) rfl rfl) fk_X8_40 rfl rfl <|
    V_callIN (As := [.ref 9]) (ci_11_X6_init (u2 (u2 (u2 (u2 (u2 (u2 (u2 (u2 (u2 (u2 (u2 (u2 (u2 (u2 (u2 I 1 1 4) 1 2 4) 1 0 1) 2 1 4) 2 2 4) 2 0 0) 3 1 4) 3 2 4) 3 0 0) 4 1 4) 4 2 4) 4 0 0) 5 1 4) 5 2 4) 5 0 1) L (u2 (u2 (u2 (u2 (u2 (u2 (u2 (u2 (u2 (u2 R 0 0 (some 1)) 0 1 (some 2)) 0 2 (some 3)) 0 3 (some 4)) 0 4 (some 5)) 6 1 (some 7)) 6 2 (some 8)) 0 5 (some 6)) 9 1 (some 10)) 0 6 (some 9)) zz22) mo_X6_init rfl (tat ok_X8_init_1 (i := 7) (q := 98) rfl rfl) (Or.inl ml_X8_46) rfl rfl ⟨(Nat.le_of_ble_eq_true rfl), (Nat.le_of_ble_eq_true rfl)⟩ ⟨(Nat.le_of_ble_eq_true rfl), (Nat.le_of_ble_eq_true rfl)⟩ (Nat.le_of_ble_eq_true rfl) rfl <|
    have zz23 := ci_11_X6_init_z zz22; V_putR cf_X8 (j := 7) (by decide) (tat ok_X8_init_1 (i := 8) (q := 101) rfl rfl) (gw_in fl_X8_49 rfl) rfl rfl rfl rfl rfl (by decide) <|
    have zz24 := Zr.r (n := 17) (k := 0) (j := 7) (x := some 11) zz23 (Nat.le_of_ble_eq_true rfl); V_aload_n (tat ok_X8_init_1 (i := 9) (q := 102) rfl rfl) 0 rfl rfl <|
    V_newN 17 (yp 18) rfl rfl cf_X4 (tat ok_X8_init_1 (i := 10) (q := 105) rfl rfl) (gw_in cl_X8_53 rfl) (gw_in is_X4 rfl) (gw_in ii_X4 rfl) ⟨(Nat.le_of_ble_eq_true rfl), (Nat.le_of_ble_eq_true rfl)⟩ (by decide) zz24 (by decide +kernel) <|
    have zz25 := Zr.up (n := 17) (m := 18) zz24 (Nat.le_of_ble_eq_true rfl); V_dup (tat ok_X8_init_1 (i := 11) (q := 106) rfl rfl) rfl <|
    V_callIN (As := []) (ci_16_X4_init (u2 (u2 (u2 (u2 (u2 (u2 (u2 (u2 (u2 (u2 (u2 (u2 (u2 (u2 (u2 (u2 (u2 (u2 (u2 (u2 (u2 I 1 1 4) 1 2 4) 1 0 1) 2 1 4) 2 2 4) 2 0 0) 3 1 4) 3 2 4) 3 0 0) 4 1 4) 4 2 4) 4 0 0) 5 1 4) 5 2 4) 5 0 1) 12 1 4) 12 2 4) 12 0 0) 13 1 4) 13 2 4) 13 0 0) L (u2 (u2 (u2 (u2 (u2 (u2 (u2 (u2 (u2 (u2 (u2 (u2 (u2 (u2 (u2 (u2 (u2 R 0 0 (some 1)) 0 1 (some 2)) 0 2 (some 3)) 0 3 (some 4)) 0 4 (some 5)) 6 1 (some 7)) 6 2 (some 8)) 0 5 (some 6)) 9 1 (some 10)) 0 6 (some 9)) 11 0 (some 12)) 11 1 (some 13)) 14 1 (some 15)) 14 2 (some 16)) 11 2 (some 14)) 11 4 (some 9)) 0 7 (some 11)) zz25) mo_X4_init rfl (tat ok_X8_init_1 (i := 12) (q := 109) rfl rfl) (Or.inl ml_X8_55) rfl rfl ⟨(Nat.le_of_ble_eq_true rfl), (Nat.le_of_ble_eq_true rfl)⟩ ⟨(Nat.le_of_ble_eq_true rfl), (Nat.le_of_ble_eq_true rfl)⟩ (Nat.le_of_ble_eq_true rfl) rfl <|
    have zz26 := ci_16_X4_init_z zz25; V_putR cf_X8 (j := 8) (by decide) (tat ok_X8_init_1 (i := 13) (q := 112) rfl rfl) (gw_in fl_X8_56 rfl) rfl rfl rfl rfl rfl (by decide) <|
    have zz27 := Zr.r (n := 27) (k := 0) (j := 8) (x := some 17) zz26 (Nat.le_of_ble_eq_true rfl); V_aload_n (tat ok_X8_init_1 (i := 14) (q := 113) rfl rfl) 0 rfl rfl <|
    V_newN 27 (yp 28) rfl rfl cf_X7 (tat ok_X8_init_1 (i := 15) (q := 116) rfl rfl) (gw_in cl_X8_60 rfl) (gw_in is_X7 rfl) (gw_in ii_X7 rfl) ⟨(Nat.le_of_ble_eq_true rfl), (Nat.le_of_ble_eq_true rfl)⟩ (by decide) zz27 (by decide +kernel) <|
    have zz28 := Zr.up (n := 27) (m := 28) zz27 (Nat.le_of_ble_eq_true rfl); V_dup (tat ok_X8_init_1 (i := 16) (q := 117) rfl rfl) rfl <|
    V_callIN (As := []) (ci_17_X7_init (u2 (u2 (u2 (u2 (u2 (u2 (u2 (u2 (u2 (u2 (u2 (u2 (u2 (u2 (u2 (u2 (u2 (u2 (u2 (u2 (u2 (u2 (u2 (u2 (u2 I 1 1 4) 1 2 4) 1 0 1) 2 1 4) 2 2 4) 2 0 0) 3 1 4) 3 2 4) 3 0 0) 4 1 4) 4 2 4) 4 0 0) 5 1 4) 5 2 4) 5 0 1) 12 1 4) 12 2 4) 12 0 0) 13 1 4) 13 2 4) 13 0 0) 19 0 (-1)) 21 0 (-1)) 23 0 (-1)) 25 0 (-1)) L (u2 (u2 (u2 (u2 (u2 (u2 (u2 (u2 (u2 (u2 (u2 (u2 (u2 (u2 (u2 (u2 (u2 (u2 (u2 (u2 (u2 (u2 (u2 (u2 (u2 (u2 (u2 R 0 0 (some 1)) 0 1 (some 2)) 0 2 (some 3)) 0 3 (some 4)) 0 4 (some 5)) 6 1 (some 7)) 6 2 (some 8)) 0 5 (some 6)) 9 1 (some 10)) 0 6 (some 9)) 11 0 (some 12)) 11 1 (some 13)) 14 1 (some 15)) 14 2 (some 16)) 11 2 (some 14)) 11 4 (some 9)) 0 7 (some 11)) 17 0 (some 18)) 19 2 (some 20)) 18 (Int32.toNatClampNeg 0) (some 19)) 21 2 (some 22)) 18 (Int32.toNatClampNeg 1) (some 21)) 23 2 (some 24)) 18 (Int32.toNatClampNeg 2) (some 23)) 25 2 (some 26)) 18 (Int32.toNatClampNeg 3) (some 25)) 0 8 (some 17)) zz28) mo_X7_init rfl (tat ok_X8_init_1 (i := 17) (q := 120) rfl rfl) (Or.inr ⟨RX8, List.mem_of_getElem? (l := nests) (i := 4) rfl⟩) rfl rfl ⟨(Nat.le_of_ble_eq_true rfl), (Nat.le_of_ble_eq_true rfl)⟩ ⟨(Nat.le_of_ble_eq_true rfl), (Nat.le_of_ble_eq_true rfl)⟩ (Nat.le_of_ble_eq_true rfl) rfl <|
    have zz29 := ci_17_X7_init_z zz28; V_putR cf_X8 (j := 9) (by decide) (tat ok_X8_init_1 (i := 18) (q := 123) rfl rfl) (gw_in fl_X8_63 rfl) rfl rfl rfl rfl rfl (by decide) <|
    have zz30 := Zr.r (n := 30) (k := 0) (j := 9) (x := some 27) zz29 (Nat.le_of_ble_eq_true rfl); V_aload_n (tat ok_X8_init_1 (i := 19) (q := 124) rfl rfl) 0 rfl rfl <|
    V_newN 30 (yp 31) rfl rfl cf_X2 (tat ok_X8_init_1 (i := 20) (q := 127) rfl rfl) (gw_in cl_X8_67 rfl) (gw_in is_X2 rfl) (gw_in ii_X2 rfl) ⟨(Nat.le_of_ble_eq_true rfl), (Nat.le_of_ble_eq_true rfl)⟩ (by decide) zz30 (by decide +kernel) <|
    have zz31 := Zr.up (n := 30) (m := 31) zz30 (Nat.le_of_ble_eq_true rfl); V_dup (tat ok_X8_init_1 (i := 21) (q := 128) rfl rfl) rfl <|
    V_callIN (As := []) (ci_18_X2_init (u2 (u2 (u2 (u2 (u2 (u2 (u2 (u2 (u2 (u2 (u2 (u2 (u2 (u2 (u2 (u2 (u2 (u2 (u2 (u2 (u2 (u2 (u2 (u2 (u2 I 1 1 4) 1 2 4) 1 0 1) 2 1 4) 2 2 4) 2 0 0) 3 1 4) 3 2 4) 3 0 0) 4 1 4) 4 2 4) 4 0 0) 5 1 4) 5 2 4) 5 0 1) 12 1 4) 12 2 4) 12 0 0) 13 1 4) 13 2 4) 13 0 0) 19 0 (-1)) 21 0 (-1)) 23 0 (-1)) 25 0 (-1)) L (u2 (u2 (u2 (u2 (u2 (u2 (u2 (u2 (u2 (u2 (u2 (u2 (u2 (u2 (u2 (u2 (u2 (u2 (u2 (u2 (u2 (u2 (u2 (u2 (u2 (u2 (u2 (u2 (u2 (u2 R 0 0 (some 1)) 0 1 (some 2)) 0 2 (some 3)) 0 3 (some 4)) 0 4 (some 5)) 6 1 (some 7)) 6 2 (some 8)) 0 5 (some 6)) 9 1 (some 10)) 0 6 (some 9)) 11 0 (some 12)) 11 1 (some 13)) 14 1 (some 15)) 14 2 (some 16)) 11 2 (some 14)) 11 4 (some 9)) 0 7 (some 11)) 17 0 (some 18)) 19 2 (some 20)) 18 (Int32.toNatClampNeg 0) (some 19)) 21 2 (some 22)) 18 (Int32.toNatClampNeg 1) (some 21)) 23 2 (some 24)) 18 (Int32.toNatClampNeg 2) (some 23)) 25 2 (some 26)) 18 (Int32.toNatClampNeg 3) (some 25)) 0 8 (some 17)) 27 8 (some 28)) 27 9 (some 29)) 0 9 (some 27)) zz31) mo_X2_init rfl (tat ok_X8_init_1 (i := 22) (q := 131) rfl rfl) (Or.inr ⟨RX8, List.mem_of_getElem? (l := nests) (i := 5) rfl⟩) rfl rfl ⟨(Nat.le_of_ble_eq_true rfl), (Nat.le_of_ble_eq_true rfl)⟩ ⟨(Nat.le_of_ble_eq_true rfl), (Nat.le_of_ble_eq_true rfl)⟩ (Nat.le_of_ble_eq_true rfl) rfl <|
    have zz32 := ci_18_X2_init_z zz31; V_putR cf_X8 (j := 10) (by decide) (tat ok_X8_init_1 (i := 23) (q := 134) rfl rfl) (gw_in fl_X8_70 rfl) rfl rfl rfl rfl rfl (by decide) <|
    have zz33 := Zr.r (n := 31) (k := 0) (j := 10) (x := some 30) zz32 (Nat.le_of_ble_eq_true rfl); V_aload_n (tat ok_X8_init_1 (i := 24) (q := 135) rfl rfl) 0 rfl rfl <|
    V_newN 31 (yp 32) rfl rfl cf_X2 (tat ok_X8_init_1 (i := 25) (q := 138) rfl rfl) (gw_in cl_X8_67 rfl) (gw_in is_X2 rfl) (gw_in ii_X2 rfl) ⟨(Nat.le_of_ble_eq_true rfl), (Nat.le_of_ble_eq_true rfl)⟩ (by decide) zz33 (by decide +kernel) <|
    have zz34 := Zr.up (n := 31) (m := 32) zz33 (Nat.le_of_ble_eq_true rfl); V_dup (tat ok_X8_init_1 (i := 26) (q := 139) rfl rfl) rfl <|
    V_callIN (As := []) (ci_19_X2_init (u2 (u2 (u2 (u2 (u2 (u2 (u2 (u2 (u2 (u2 (u2 (u2 (u2 (u2 (u2 (u2 (u2 (u2 (u2 (u2 (u2 (u2 (u2 (u2 (u2 I 1 1 4) 1 2 4) 1 0 1) 2 1 4) 2 2 4) 2 0 0) 3 1 4) 3 2 4) 3 0 0) 4 1 4) 4 2 4) 4 0 0) 5 1 4) 5 2 4) 5 0 1) 12 1 4) 12 2 4) 12 0 0) 13 1 4) 13 2 4) 13 0 0) 19 0 (-1)) 21 0 (-1)) 23 0 (-1)) 25 0 (-1)) L (u2 (u2 (u2 (u2 (u2 (u2 (u2 (u2 (u2 (u2 (u2 (u2 (u2 (u2 (u2 (u2 (u2 (u2 (u2 (u2 (u2 (u2 (u2 (u2 (u2 (u2 (u2 (u2 (u2 (u2 (u2 R 0 0 (some 1)) 0 1 (some 2)) 0 2 (some 3)) 0 3 (some 4)) 0 4 (some 5)) 6 1 (some 7)) 6 2 (some 8)) 0 5 (some 6)) 9 1 (some 10)) 0 6 (some 9)) 11 0 (some 12)) 11 1 (some 13)) 14 1 (some 15)) 14 2 (some 16)) 11 2 (some 14)) 11 4 (some 9)) 0 7 (some 11)) 17 0 (some 18)) 19 2 (some 20)) 18 (Int32.toNatClampNeg 0) (some 19)) 21 2 (some 22)) 18 (Int32.toNatClampNeg 1) (some 21)) 23 2 (some 24)) 18 (Int32.toNatClampNeg 2) (some 23)) 25 2 (some 26)) 18 (Int32.toNatClampNeg 3) (some 25)) 0 8 (some 17)) 27 8 (some 28)) 27 9 (some 29)) 0 9 (some 27)) 0 10 (some 30)) zz34) mo_X2_init rfl (tat ok_X8_init_1 (i := 27) (q := 142) rfl rfl) (Or.inr ⟨RX8, List.mem_of_getElem? (l := nests) (i := 5) rfl⟩) rfl rfl ⟨(Nat.le_of_ble_eq_true rfl), (Nat.le_of_ble_eq_true rfl)⟩ ⟨(Nat.le_of_ble_eq_true rfl), (Nat.le_of_ble_eq_true rfl)⟩ (Nat.le_of_ble_eq_true rfl) rfl <|
    have zz35 := ci_19_X2_init_z zz34; V_putR cf_X8 (j := 11) (by decide) (tat ok_X8_init_1 (i := 28) (q := 145) rfl rfl) (gw_in fl_X8_74 rfl) rfl rfl rfl rfl rfl (by decide) <|
    have zz36 := Zr.r (n := 32) (k := 0) (j := 11) (x := some 31) zz35 (Nat.le_of_ble_eq_true rfl); V_aload_n (tat ok_X8_init_1 (i := 29) (q := 146) rfl rfl) 0 rfl rfl <|
    V_bipush (tat ok_X8_init_1 (i := 30) (q := 148) rfl rfl) bp_31 <|
    V_newaN (atype := .long) (ty := .long) 32 (yp 33) rfl rfl rfl (tat ok_X8_init_1 (i := 31) (q := 150) rfl rfl) (gw_in ac_long rfl) (by decide) (by decide) (by decide) ⟨(Nat.le_of_ble_eq_true rfl), (Nat.le_of_ble_eq_true rfl)⟩ (by decide) (Or.inr (Or.inl ⟨rfl, rfl⟩)) zz36 <|
    have zz37 := Zr.up (n := 32) (m := 33) zz36 (Nat.le_of_ble_eq_true rfl); V_putR cf_X8 (j := 12) (by decide) (tat ok_X8_init_1 (i := 32) (q := 153) rfl rfl) (gw_in fl_X8_77 rfl) rfl rfl rfl rfl rfl (by decide) <|
    have zz38 := Zr.r (n := 33) (k := 0) (j := 12) (x := some 32) zz37 (Nat.le_of_ble_eq_true rfl); V_vret (tat ok_X8_init_1 (i := 33) (q := 154) rfl rfl) rfl rfl ⟨(Nat.le_of_ble_eq_true rfl), (Nat.le_of_ble_eq_true rfl)⟩)
theorem ci_20_X8_init_z {I : WI} {L : WL} {R : WR} (hz : Zr 1 I L R) : Zr 33 (u2 (u2 (u2 (u2 (u2 (u2 (u2 (u2 (u2 (u2 (u2 (u2 (u2 (u2 (u2 (u2 (u2 (u2 (u2 (u2 (u2 (u2 (u2 (u2 (u2 I 1 1 4) 1 2 4) 1 0 1) 2 1 4) 2 2 4) 2 0 0) 3 1 4) 3 2 4) 3 0 0) 4 1 4) 4 2 4) 4 0 0) 5 1 4) 5 2 4) 5 0 1) 12 1 4) 12 2 4) 12 0 0) 13 1 4) 13 2 4) 13 0 0) 19 0 (-1)) 21 0 (-1)) 23 0 (-1)) 25 0 (-1)) L (u2 (u2 (u2 (u2 (u2 (u2 (u2 (u2 (u2 (u2 (u2 (u2 (u2 (u2 (u2 (u2 (u2 (u2 (u2 (u2 (u2 (u2 (u2 (u2 (u2 (u2 (u2 (u2 (u2 (u2 (u2 (u2 (u2 R 0 0 (some 1)) 0 1 (some 2)) 0 2 (some 3)) 0 3 (some 4)) 0 4 (some 5)) 6 1 (some 7)) 6 2 (some 8)) 0 5 (some 6)) 9 1 (some 10)) 0 6 (some 9)) 11 0 (some 12)) 11 1 (some 13)) 14 1 (some 15)) 14 2 (some 16)) 11 2 (some 14)) 11 4 (some 9)) 0 7 (some 11)) 17 0 (some 18)) 19 2 (some 20)) 18 (Int32.toNatClampNeg 0) (some 19)) 21 2 (some 22)) 18 (Int32.toNatClampNeg 1) (some 21)) 23 2 (some 24)) 18 (Int32.toNatClampNeg 2) (some 23)) 25 2 (some 26)) 18 (Int32.toNatClampNeg 3) (some 25)) 0 8 (some 17)) 27 8 (some 28)) 27 9 (some 29)) 0 9 (some 27)) 0 10 (some 30)) 0 11 (some 31)) 0 12 (some 32)) := have zz1 := Zr.up (n := 1) (m := 2) hz (Nat.le_of_ble_eq_true rfl); have zz2 := ci_1_X0_init_z zz1; have zz3 := Zr.r (n := 2) (k := 0) (j := 0) (x := some 1) zz2 (Nat.le_of_ble_eq_true rfl); have zz4 := Zr.up (n := 2) (m := 3) zz3 (Nat.le_of_ble_eq_true rfl); have zz5 := ci_2_X0_init_z zz4; have zz6 := Zr.r (n := 3) (k := 0) (j := 1) (x := some 2) zz5 (Nat.le_of_ble_eq_true rfl); have zz7 := Zr.up (n := 3) (m := 4) zz6 (Nat.le_of_ble_eq_true rfl); have zz8 := ci_3_X0_init_z zz7; have zz9 := Zr.r (n := 4) (k := 0) (j := 2) (x := some 3) zz8 (Nat.le_of_ble_eq_true rfl); have zz10 := Zr.up (n := 4) (m := 5) zz9 (Nat.le_of_ble_eq_true rfl); have zz11 := ci_4_X0_init_z zz10; have zz12 := Zr.r (n := 5) (k := 0) (j := 3) (x := some 4) zz11 (Nat.le_of_ble_eq_true rfl); have zz13 := Zr.up (n := 5) (m := 6) zz12 (Nat.le_of_ble_eq_true rfl); have zz14 := ci_5_X0_init_z zz13; have zz15 := Zr.r (n := 6) (k := 0) (j := 4) (x := some 5) zz14 (Nat.le_of_ble_eq_true rfl); have zz16 := Zr.up (n := 6) (m := 7) zz15 (Nat.le_of_ble_eq_true rfl); have zz17 := ci_6_X1_init_z zz16; have zz18 := Zr.r (n := 9) (k := 0) (j := 5) (x := some 6) zz17 (Nat.le_of_ble_eq_true rfl); have zz19 := Zr.up (n := 9) (m := 10) zz18 (Nat.le_of_ble_eq_true rfl); have zz20 := ci_7_X5_init_z zz19; have zz21 := Zr.r (n := 11) (k := 0) (j := 6) (x := some 9) zz20 (Nat.le_of_ble_eq_true rfl); have zz22 := Zr.up (n := 11) (m := 12) zz21 (Nat.le_of_ble_eq_true rfl); have zz23 := ci_11_X6_init_z zz22; have zz24 := Zr.r (n := 17) (k := 0) (j := 7) (x := some 11) zz23 (Nat.le_of_ble_eq_true rfl); have zz25 := Zr.up (n := 17) (m := 18) zz24 (Nat.le_of_ble_eq_true rfl); have zz26 := ci_16_X4_init_z zz25; have zz27 := Zr.r (n := 27) (k := 0) (j := 8) (x := some 17) zz26 (Nat.le_of_ble_eq_true rfl); have zz28 := Zr.up (n := 27) (m := 28) zz27 (Nat.le_of_ble_eq_true rfl); have zz29 := ci_17_X7_init_z zz28; have zz30 := Zr.r (n := 30) (k := 0) (j := 9) (x := some 27) zz29 (Nat.le_of_ble_eq_true rfl); have zz31 := Zr.up (n := 30) (m := 31) zz30 (Nat.le_of_ble_eq_true rfl); have zz32 := ci_18_X2_init_z zz31; have zz33 := Zr.r (n := 31) (k := 0) (j := 10) (x := some 30) zz32 (Nat.le_of_ble_eq_true rfl); have zz34 := Zr.up (n := 31) (m := 32) zz33 (Nat.le_of_ble_eq_true rfl); have zz35 := ci_19_X2_init_z zz34; have zz36 := Zr.r (n := 32) (k := 0) (j := 11) (x := some 31) zz35 (Nat.le_of_ble_eq_true rfl); have zz37 := Zr.up (n := 32) (m := 33) zz36 (Nat.le_of_ble_eq_true rfl); have zz38 := Zr.r (n := 33) (k := 0) (j := 12) (x := some 32) zz37 (Nat.le_of_ble_eq_true rfl); zz38
def I8 : WI := (u2 (u2 (u2 (u2 (u2 (u2 (u2 (u2 (u2 (u2 (u2 (u2 (u2 (u2 (u2 (u2 (u2 (u2 (u2 (u2 (u2 (u2 (u2 (u2 (u2 (fun _ _ => 0) 1 1 4) 1 2 4) 1 0 1) 2 1 4) 2 2 4) 2 0 0) 3 1 4) 3 2 4) 3 0 0) 4 1 4) 4 2 4) 4 0 0) 5 1 4) 5 2 4) 5 0 1) 12 1 4) 12 2 4) 12 0 0) 13 1 4) 13 2 4) 13 0 0) 19 0 (-1)) 21 0 (-1)) 23 0 (-1)) 25 0 (-1))
def R8 : WR := (u2 (u2 (u2 (u2 (u2 (u2 (u2 (u2 (u2 (u2 (u2 (u2 (u2 (u2 (u2 (u2 (u2 (u2 (u2 (u2 (u2 (u2 (u2 (u2 (u2 (u2 (u2 (u2 (u2 (u2 (u2 (u2 (u2 (fun _ _ => none) 0 0 (some 1)) 0 1 (some 2)) 0 2 (some 3)) 0 3 (some 4)) 0 4 (some 5)) 6 1 (some 7)) 6 2 (some 8)) 0 5 (some 6)) 9 1 (some 10)) 0 6 (some 9)) 11 0 (some 12)) 11 1 (some 13)) 14 1 (some 15)) 14 2 (some 16)) 11 2 (some 14)) 11 4 (some 9)) 0 7 (some 11)) 17 0 (some 18)) 19 2 (some 20)) 18 (Int32.toNatClampNeg 0) (some 19)) 21 2 (some 22)) 18 (Int32.toNatClampNeg 1) (some 21)) 23 2 (some 24)) 18 (Int32.toNatClampNeg 2) (some 23)) 25 2 (some 26)) 18 (Int32.toNatClampNeg 3) (some 25)) 0 8 (some 17)) 27 8 (some 28)) 27 9 (some 29)) 0 9 (some 27)) 0 10 (some 30)) 0 11 (some 31)) 0 12 (some 32))
def L8 : WL := fun _ _ => 0
theorem Zr_0 : Zr 1 (fun _ _ => 0) L8 (fun _ _ => none) := fun _ _ _ => ⟨rfl, rfl, rfl⟩
theorem z8 : Zr 33 I8 L8 R8 := ci_20_X8_init_z Zr_0
theorem z34 : Zr 34 I8 L8 R8 := Zr.up (n := 33) (m := 34) z8 (by decide)
theorem ci_8 : Ct x_X8_init 4 [.ref 0] (yp 1) (fun _ _ => 0) L8 (fun _ _ => none) 32 767 (none, yp 33, I8, L8, R8) := ci_20_X8_init _ _ _ Zr_0
def I9 : WI := (u2 (u2 (u2 (u2 I8 42 (Int32.toNatClampNeg 0) (-4)) 42 (Int32.toNatClampNeg 1) (-4)) 42 (Int32.toNatClampNeg 2) (-4)) 42 (Int32.toNatClampNeg 3) (-4))
def R9 : WR := (u2 (u2 (u2 (u2 (u2 (u2 (u2 (u2 (u2 (u2 (u2 R8 33 6 (some 34)) 33 7 (some 35)) 33 8 (some 36)) 33 9 (some 37)) 33 19 (some 38)) 33 20 (some 39)) 33 36 (some 40)) 33 37 (some 41)) 33 43 (some 42)) 33 44 (some 43)) 33 45 (some 44))
theorem z9 : Zr 45 I9 L8 R9 := have zz1 := Zr.up (n := 34) (m := 35) z34 (Nat.le_of_ble_eq_true rfl); have zz2 := Zr.r (n := 35) (k := 33) (j := 6) (x := some 34) zz1 (Nat.le_of_ble_eq_true rfl); have zz3 := Zr.up (n := 35) (m := 36) zz2 (Nat.le_of_ble_eq_true rfl); have zz4 := Zr.r (n := 36) (k := 33) (j := 7) (x := some 35) zz3 (Nat.le_of_ble_eq_true rfl); have zz5 := Zr.up (n := 36) (m := 37) zz4 (Nat.le_of_ble_eq_true rfl); have zz6 := Zr.r (n := 37) (k := 33) (j := 8) (x := some 36) zz5 (Nat.le_of_ble_eq_true rfl); have zz7 := Zr.up (n := 37) (m := 38) zz6 (Nat.le_of_ble_eq_true rfl); have zz8 := Zr.r (n := 38) (k := 33) (j := 9) (x := some 37) zz7 (Nat.le_of_ble_eq_true rfl); have zz9 := Zr.up (n := 38) (m := 39) zz8 (Nat.le_of_ble_eq_true rfl); have zz10 := Zr.r (n := 39) (k := 33) (j := 19) (x := some 38) zz9 (Nat.le_of_ble_eq_true rfl); have zz11 := Zr.up (n := 39) (m := 40) zz10 (Nat.le_of_ble_eq_true rfl); have zz12 := Zr.r (n := 40) (k := 33) (j := 20) (x := some 39) zz11 (Nat.le_of_ble_eq_true rfl); have zz13 := Zr.up (n := 40) (m := 41) zz12 (Nat.le_of_ble_eq_true rfl); have zz14 := Zr.r (n := 41) (k := 33) (j := 36) (x := some 40) zz13 (Nat.le_of_ble_eq_true rfl); have zz15 := Zr.up (n := 41) (m := 42) zz14 (Nat.le_of_ble_eq_true rfl); have zz16 := Zr.r (n := 42) (k := 33) (j := 37) (x := some 41) zz15 (Nat.le_of_ble_eq_true rfl); have zz17 := Zr.up (n := 42) (m := 43) zz16 (Nat.le_of_ble_eq_true rfl); have zz18 := Zr.r (n := 43) (k := 33) (j := 43) (x := some 42) zz17 (Nat.le_of_ble_eq_true rfl); have zz19 := Zr.up (n := 43) (m := 44) zz18 (Nat.le_of_ble_eq_true rfl); have zz20 := Zr.r (n := 44) (k := 33) (j := 44) (x := some 43) zz19 (Nat.le_of_ble_eq_true rfl); have zz21 := Zr.up (n := 44) (m := 45) zz20 (Nat.le_of_ble_eq_true rfl); have zz22 := Zr.r (n := 45) (k := 33) (j := 45) (x := some 44) zz21 (Nat.le_of_ble_eq_true rfl); have zz23 := Zr.i (n := 45) (k := 42) (j := Int32.toNatClampNeg 0) (x := (-4)) zz22 (Nat.le_of_ble_eq_true rfl); have zz24 := Zr.i (n := 45) (k := 42) (j := Int32.toNatClampNeg 1) (x := (-4)) zz23 (Nat.le_of_ble_eq_true rfl); have zz25 := Zr.i (n := 45) (k := 42) (j := Int32.toNatClampNeg 2) (x := (-4)) zz24 (Nat.le_of_ble_eq_true rfl); have zz26 := Zr.i (n := 45) (k := 42) (j := Int32.toNatClampNeg 3) (x := (-4)) zz25 (Nat.le_of_ble_eq_true rfl); zz26
def Zc (R : WR) : Prop := ∀ k j, 50 ≤ j → R k j = none
theorem Zc.u {R : WR} {k j : Nat} {x : Option Nat} (h : Zc R) (hj : j < 50) : Zc (u2 R k j x) := fun a b hb => by
  unfold u2
  rw [if_neg (by omega)]
  exact h a b hb
theorem zc_R9 : Zc R9 := by
  unfold R9 R8
  repeat (refine Zc.u ?_ (by decide))
  exact fun _ _ _ => rfl
set_option maxRecDepth 100000 in
theorem R0_out : ∀ k j, 45 ≤ k ∨ 50 ≤ j → R0 k j = none := by
  intro k j h
  unfold R0
  split <;> first | rfl | (exfalso; omega)
theorem R9_in : ∀ k, k < 45 → ∀ j, j < 50 → R9 k j = R0 k j := by decide +kernel
theorem R9_eq : R9 = R0 := by
  funext k j
  by_cases hk : k < 45
  · by_cases hj : j < 50
    · exact R9_in k hk j hj
    · rw [zc_R9 k j (Nat.le_of_not_lt hj), R0_out k j (.inr (Nat.le_of_not_lt hj))]
  · rw [(z9 k (Nat.le_of_not_lt hk) j).2.2, R0_out k j (.inl (Nat.le_of_not_lt hk))]
theorem V_weq {Z : Cx} {pc : Nat} {lv : List (Nat × Value)} {st : List Value} {y y' : Ly} {I : WI} {L : WL} {R R' : WR} {kc ks : Nat} (hy : y = y') (hR : R = R') (k : V Z pc lv st y' I L R' kc ks) : V Z pc lv st y I L R kc ks := by
  subst hy
  subst hR
  exact k
theorem ci_9 {v : WI × WL} (hv : F_X9_keepDraft (p1 (F_X9_firstDraft I9 L8)) (p2 (F_X9_firstDraft I9 L8)) = some v) : Ct x_X9_init 2 [.ref 33] (yp 34) I8 L8 R8 11 7215 (none, ly0, p1 v, p2 v, R0) :=
  Ct_of_V mo_X9_init.1 (Nat.le_of_ble_eq_true rfl) (V_aload_n (tat ok_X9_init_0 (i := 0) (q := 1) rfl rfl) 0 rfl rfl <|
    V_obj (tat ok_X9_init_0 (i := 1) (q := 4) rfl rfl) ml_X9_1 rfl ⟨(Nat.le_of_ble_eq_true rfl), (Nat.le_of_ble_eq_true rfl)⟩ <|
    V_aload_n (tat ok_X9_init_0 (i := 2) (q := 5) rfl rfl) 0 rfl rfl <|
    V_bipush (tat ok_X9_init_0 (i := 3) (q := 7) rfl rfl) bp_48 <|
    V_newaN (atype := .int) (ty := .int) 34 (yp 35) rfl rfl rfl (tat ok_X9_init_0 (i := 4) (q := 9) rfl rfl) (gw_in ac_int rfl) (by decide) (by decide) (by decide) ⟨(Nat.le_of_ble_eq_true rfl), (Nat.le_of_ble_eq_true rfl)⟩ (by decide) (Or.inl ⟨rfl, rfl⟩) z34 <|
    have zz1 := Zr.up (n := 34) (m := 35) z34 (Nat.le_of_ble_eq_true rfl); V_putR cf_X9 (j := 6) (by decide) (tat ok_X9_init_0 (i := 5) (q := 12) rfl rfl) (gw_in fl_X9_7 rfl) rfl rfl rfl rfl rfl (by decide) <|
    have zz2 := Zr.r (n := 35) (k := 33) (j := 6) (x := some 34) zz1 (Nat.le_of_ble_eq_true rfl); V_aload_n (tat ok_X9_init_0 (i := 6) (q := 13) rfl rfl) 0 rfl rfl <|
    V_iconst (tat ok_X9_init_0 (i := 7) (q := 14) rfl rfl) ic_2 <|
    V_newaN (atype := .long) (ty := .long) 35 (yp 36) rfl rfl rfl (tat ok_X9_init_0 (i := 8) (q := 16) rfl rfl) (gw_in ac_long rfl) (by decide) (by decide) (by decide) ⟨(Nat.le_of_ble_eq_true rfl), (Nat.le_of_ble_eq_true rfl)⟩ (by decide) (Or.inr (Or.inl ⟨rfl, rfl⟩)) zz2 <|
    have zz3 := Zr.up (n := 35) (m := 36) zz2 (Nat.le_of_ble_eq_true rfl); V_putR cf_X9 (j := 7) (by decide) (tat ok_X9_init_0 (i := 9) (q := 19) rfl rfl) (gw_in fl_X9_13 rfl) rfl rfl rfl rfl rfl (by decide) <|
    have zz4 := Zr.r (n := 36) (k := 33) (j := 7) (x := some 35) zz3 (Nat.le_of_ble_eq_true rfl); V_aload_n (tat ok_X9_init_0 (i := 10) (q := 20) rfl rfl) 0 rfl rfl <|
    V_iconst (tat ok_X9_init_0 (i := 11) (q := 21) rfl rfl) ic_2 <|
    V_newaN (atype := .int) (ty := .int) 36 (yp 37) rfl rfl rfl (tat ok_X9_init_0 (i := 12) (q := 23) rfl rfl) (gw_in ac_int rfl) (by decide) (by decide) (by decide) ⟨(Nat.le_of_ble_eq_true rfl), (Nat.le_of_ble_eq_true rfl)⟩ (by decide) (Or.inl ⟨rfl, rfl⟩) zz4 <|
    have zz5 := Zr.up (n := 36) (m := 37) zz4 (Nat.le_of_ble_eq_true rfl); V_putR cf_X9 (j := 8) (by decide) (tat ok_X9_init_0 (i := 13) (q := 26) rfl rfl) (gw_in fl_X9_17 rfl) rfl rfl rfl rfl rfl (by decide) <|
    have zz6 := Zr.r (n := 37) (k := 33) (j := 8) (x := some 36) zz5 (Nat.le_of_ble_eq_true rfl); V_aload_n (tat ok_X9_init_0 (i := 14) (q := 27) rfl rfl) 0 rfl rfl <|
    V_iconst (tat ok_X9_init_0 (i := 15) (q := 28) rfl rfl) ic_2 <|
    V_newaN (atype := .int) (ty := .int) 37 (yp 38) rfl rfl rfl (tat ok_X9_init_0 (i := 16) (q := 30) rfl rfl) (gw_in ac_int rfl) (by decide) (by decide) (by decide) ⟨(Nat.le_of_ble_eq_true rfl), (Nat.le_of_ble_eq_true rfl)⟩ (by decide) (Or.inl ⟨rfl, rfl⟩) zz6 <|
    have zz7 := Zr.up (n := 37) (m := 38) zz6 (Nat.le_of_ble_eq_true rfl); V_putR cf_X9 (j := 9) (by decide) (tat ok_X9_init_0 (i := 17) (q := 33) rfl rfl) (gw_in fl_X9_20 rfl) rfl rfl rfl rfl rfl (by decide) <|
    have zz8 := Zr.r (n := 38) (k := 33) (j := 9) (x := some 37) zz7 (Nat.le_of_ble_eq_true rfl); V_aload_n (tat ok_X9_init_0 (i := 18) (q := 34) rfl rfl) 0 rfl rfl <|
    V_bipush (tat ok_X9_init_0 (i := 19) (q := 36) rfl rfl) bp_48 <|
    V_newaN (atype := .int) (ty := .int) 38 (yp 39) rfl rfl rfl (tat ok_X9_init_0 (i := 20) (q := 38) rfl rfl) (gw_in ac_int rfl) (by decide) (by decide) (by decide) ⟨(Nat.le_of_ble_eq_true rfl), (Nat.le_of_ble_eq_true rfl)⟩ (by decide) (Or.inl ⟨rfl, rfl⟩) zz8 <|
    have zz9 := Zr.up (n := 38) (m := 39) zz8 (Nat.le_of_ble_eq_true rfl); V_putR cf_X9 (j := 19) (by decide) (tat ok_X9_init_0 (i := 21) (q := 41) rfl rfl) (gw_in fl_X9_23 rfl) rfl rfl rfl rfl rfl (by decide) <|
    have zz10 := Zr.r (n := 39) (k := 33) (j := 19) (x := some 38) zz9 (Nat.le_of_ble_eq_true rfl); V_aload_n (tat ok_X9_init_0 (i := 22) (q := 42) rfl rfl) 0 rfl rfl <|
    V_sipush (tat ok_X9_init_0 (i := 23) (q := 45) rfl rfl) sp_320 <|
    V_newaN (atype := .int) (ty := .int) 39 (yp 40) rfl rfl rfl (tat ok_X9_init_0 (i := 24) (q := 47) rfl rfl) (gw_in ac_int rfl) (by decide) (by decide) (by decide) ⟨(Nat.le_of_ble_eq_true rfl), (Nat.le_of_ble_eq_true rfl)⟩ (by decide) (Or.inl ⟨rfl, rfl⟩) zz10 <|
    have zz11 := Zr.up (n := 39) (m := 40) zz10 (Nat.le_of_ble_eq_true rfl); V_putR cf_X9 (j := 20) (by decide) (tat ok_X9_init_0 (i := 25) (q := 50) rfl rfl) (gw_in fl_X9_26 rfl) rfl rfl rfl rfl rfl (by decide) <|
    have zz12 := Zr.r (n := 40) (k := 33) (j := 20) (x := some 39) zz11 (Nat.le_of_ble_eq_true rfl); V_aload_n (tat ok_X9_init_0 (i := 26) (q := 51) rfl rfl) 0 rfl rfl <|
    V_bipush (tat ok_X9_init_0 (i := 27) (q := 53) rfl rfl) bp_64 <|
    V_newaN (atype := .long) (ty := .long) 40 (yp 41) rfl rfl rfl (tat ok_X9_init_0 (i := 28) (q := 55) rfl rfl) (gw_in ac_long rfl) (by decide) (by decide) (by decide) ⟨(Nat.le_of_ble_eq_true rfl), (Nat.le_of_ble_eq_true rfl)⟩ (by decide) (Or.inr (Or.inl ⟨rfl, rfl⟩)) zz12 <|
    have zz13 := Zr.up (n := 40) (m := 41) zz12 (Nat.le_of_ble_eq_true rfl); V_putR cf_X9 (j := 36) (by decide) (tat ok_X9_init_0 (i := 29) (q := 58) rfl rfl) (gw_in fl_X9_29 rfl) rfl rfl rfl rfl rfl (by decide) <|
    have zz14 := Zr.r (n := 41) (k := 33) (j := 36) (x := some 40) zz13 (Nat.le_of_ble_eq_true rfl); V_aload_n (tat ok_X9_init_0 (i := 30) (q := 59) rfl rfl) 0 rfl rfl <|
    V_sipush (tat ok_X9_init_0 (i := 31) (q := 62) rfl rfl) sp_6561 <|
    V_newaN (atype := .int) (ty := .int) 41 (yp 42) rfl rfl rfl (tat ok_X9_init_0 (i := 32) (q := 64) rfl rfl) (gw_in ac_int rfl) (by decide) (by decide) (by decide) ⟨(Nat.le_of_ble_eq_true rfl), (Nat.le_of_ble_eq_true rfl)⟩ (by decide) (Or.inl ⟨rfl, rfl⟩) zz14 <|
    have zz15 := Zr.up (n := 41) (m := 42) zz14 (Nat.le_of_ble_eq_true rfl); V_putR cf_X9 (j := 37) (by decide) (tat ok_X9_init_0 (i := 33) (q := 67) rfl rfl) (gw_in fl_X9_32 rfl) rfl rfl rfl rfl rfl (by decide) <|
    have zz16 := Zr.r (n := 42) (k := 33) (j := 37) (x := some 41) zz15 (Nat.le_of_ble_eq_true rfl); V_aload_n (tat ok_X9_init_0 (i := 34) (q := 68) rfl rfl) 0 rfl rfl <|
    V_iconst (tat ok_X9_init_0 (i := 35) (q := 69) rfl rfl) ic_4 <|
    V_newaN (atype := .int) (ty := .int) 42 (yp 43) rfl rfl rfl (tat ok_X9_init_0 (i := 36) (q := 71) rfl rfl) (gw_in ac_int rfl) (by decide) (by decide) (by decide) ⟨(Nat.le_of_ble_eq_true rfl), (Nat.le_of_ble_eq_true rfl)⟩ (by decide) (Or.inl ⟨rfl, rfl⟩) zz16 <|
    have zz17 := Zr.up (n := 42) (m := 43) zz16 (Nat.le_of_ble_eq_true rfl); V_putR cf_X9 (j := 43) (by decide) (tat ok_X9_init_0 (i := 37) (q := 74) rfl rfl) (gw_in fl_X9_35 rfl) rfl rfl rfl rfl rfl (by decide) <|
    have zz18 := Zr.r (n := 43) (k := 33) (j := 43) (x := some 42) zz17 (Nat.le_of_ble_eq_true rfl); V_aload_n (tat ok_X9_init_0 (i := 38) (q := 75) rfl rfl) 0 rfl rfl <|
    V_iconst (tat ok_X9_init_0 (i := 39) (q := 76) rfl rfl) ic_4 <|
    V_newaN (atype := .int) (ty := .int) 43 (yp 44) rfl rfl rfl (tat ok_X9_init_1 (i := 0) (q := 78) rfl rfl) (gw_in ac_int rfl) (by decide) (by decide) (by decide) ⟨(Nat.le_of_ble_eq_true rfl), (Nat.le_of_ble_eq_true rfl)⟩ (by decide) (Or.inl ⟨rfl, rfl⟩) zz18 <|
    have zz19 := Zr.up (n := 43) (m := 44) zz18 (Nat.le_of_ble_eq_true rfl); V_putR cf_X9 (j := 44) (by decide) (tat ok_X9_init_1 (i := 1) (q := 81) rfl rfl) (gw_in fl_X9_38 rfl) rfl rfl rfl rfl rfl (by decide) <|
    have zz20 := Zr.r (n := 44) (k := 33) (j := 44) (x := some 43) zz19 (Nat.le_of_ble_eq_true rfl); V_aload_n (tat ok_X9_init_1 (i := 2) (q := 82) rfl rfl) 0 rfl rfl <|
    V_sipush (tat ok_X9_init_1 (i := 3) (q := 85) rfl rfl) sp_160 <|
    V_newaN (atype := .int) (ty := .int) 44 (yp 45) rfl rfl rfl (tat ok_X9_init_1 (i := 4) (q := 87) rfl rfl) (gw_in ac_int rfl) (by decide) (by decide) (by decide) ⟨(Nat.le_of_ble_eq_true rfl), (Nat.le_of_ble_eq_true rfl)⟩ (by decide) (Or.inl ⟨rfl, rfl⟩) zz20 <|
    have zz21 := Zr.up (n := 44) (m := 45) zz20 (Nat.le_of_ble_eq_true rfl); V_putR cf_X9 (j := 45) (by decide) (tat ok_X9_init_1 (i := 5) (q := 90) rfl rfl) (gw_in fl_X9_41 rfl) rfl rfl rfl rfl rfl (by decide) <|
    have zz22 := Zr.r (n := 45) (k := 33) (j := 45) (x := some 44) zz21 (Nat.le_of_ble_eq_true rfl); V_iconst (tat ok_X9_init_1 (i := 6) (q := 91) rfl rfl) ic_0 <|
    V_istore_n (lv' := [(1, .int 0), (0, .ref 33)]) (tat ok_X9_init_1 (i := 7) (q := 92) rfl rfl) rfl (Nat.le_of_ble_eq_true rfl) rfl <|
    V_iload_n (tat ok_X9_init_1 (i := 8) (q := 93) rfl rfl) 0 rfl rfl <|
    V_iconst (tat ok_X9_init_1 (i := 9) (q := 94) rfl rfl) ic_4 <|
    V_icmp_ge (tat ok_X9_init_1 (i := 10) (q := 97) rfl rfl) rfl (fun c => absurd c (by decide)) (fun _ => V_aload_n (tat ok_X9_init_1 (i := 11) (q := 98) rfl rfl) 1 rfl rfl <|
    V_getR (tat ok_X9_init_1 (i := 12) (q := 101) rfl rfl) fk_X9_35 rfl rfl <|
    V_iload_n (tat ok_X9_init_1 (i := 13) (q := 102) rfl rfl) 0 rfl rfl <|
    V_bipush (tat ok_X9_init_1 (i := 14) (q := 104) rfl rfl) bp_m4 <|
    V_iast (tat ok_X9_init_1 (i := 15) (q := 105) rfl rfl) rfl (vp_in_nI (n := 0) (by decide) (by decide)) <|
    have zz23 := Zr.i (n := 45) (k := 42) (j := Int32.toNatClampNeg 0) (x := (-4)) zz22 (Nat.le_of_ble_eq_true rfl); V_iinc (v := 1) (lv' := [(1, .int 1), (0, .ref 33)]) (tat ok_X9_init_1 (i := 16) (q := 108) rfl rfl) 0 rfl (by decide) (Nat.le_of_ble_eq_true rfl) rfl <|
    V_goto (tat ok_X9_init_1 (i := 17) (q := 111) rfl rfl) rfl <|
    V_iload_n (tat ok_X9_init_1 (i := 8) (q := 93) rfl rfl) 0 rfl rfl <|
    V_iconst (tat ok_X9_init_1 (i := 9) (q := 94) rfl rfl) ic_4 <|
    V_icmp_ge (tat ok_X9_init_1 (i := 10) (q := 97) rfl rfl) rfl (fun c => absurd c (by decide)) (fun _ => V_aload_n (tat ok_X9_init_1 (i := 11) (q := 98) rfl rfl) 1 rfl rfl <|
    V_getR (tat ok_X9_init_1 (i := 12) (q := 101) rfl rfl) fk_X9_35 rfl rfl <|
    V_iload_n (tat ok_X9_init_1 (i := 13) (q := 102) rfl rfl) 0 rfl rfl <|
    V_bipush (tat ok_X9_init_1 (i := 14) (q := 104) rfl rfl) bp_m4 <|
    V_iast (tat ok_X9_init_1 (i := 15) (q := 105) rfl rfl) rfl (vp_in_nI (n := 1) (by decide) (by decide)) <|
    have zz24 := Zr.i (n := 45) (k := 42) (j := Int32.toNatClampNeg 1) (x := (-4)) zz23 (Nat.le_of_ble_eq_true rfl); V_iinc (v := 2) (lv' := [(1, .int 2), (0, .ref 33)]) (tat ok_X9_init_1 (i := 16) (q := 108) rfl rfl) 0 rfl (by decide) (Nat.le_of_ble_eq_true rfl) rfl <|
    V_goto (tat ok_X9_init_1 (i := 17) (q := 111) rfl rfl) rfl <|
    V_iload_n (tat ok_X9_init_1 (i := 8) (q := 93) rfl rfl) 0 rfl rfl <|
    V_iconst (tat ok_X9_init_1 (i := 9) (q := 94) rfl rfl) ic_4 <|
    V_icmp_ge (tat ok_X9_init_1 (i := 10) (q := 97) rfl rfl) rfl (fun c => absurd c (by decide)) (fun _ => V_aload_n (tat ok_X9_init_1 (i := 11) (q := 98) rfl rfl) 1 rfl rfl <|
    V_getR (tat ok_X9_init_1 (i := 12) (q := 101) rfl rfl) fk_X9_35 rfl rfl <|
    V_iload_n (tat ok_X9_init_1 (i := 13) (q := 102) rfl rfl) 0 rfl rfl <|
    V_bipush (tat ok_X9_init_1 (i := 14) (q := 104) rfl rfl) bp_m4 <|
    V_iast (tat ok_X9_init_1 (i := 15) (q := 105) rfl rfl) rfl (vp_in_nI (n := 2) (by decide) (by decide)) <|
    have zz25 := Zr.i (n := 45) (k := 42) (j := Int32.toNatClampNeg 2) (x := (-4)) zz24 (Nat.le_of_ble_eq_true rfl); V_iinc (v := 3) (lv' := [(1, .int 3), (0, .ref 33)]) (tat ok_X9_init_1 (i := 16) (q := 108) rfl rfl) 0 rfl (by decide) (Nat.le_of_ble_eq_true rfl) rfl <|
    V_goto (tat ok_X9_init_1 (i := 17) (q := 111) rfl rfl) rfl <|
    V_iload_n (tat ok_X9_init_1 (i := 8) (q := 93) rfl rfl) 0 rfl rfl <|
    V_iconst (tat ok_X9_init_1 (i := 9) (q := 94) rfl rfl) ic_4 <|
    V_icmp_ge (tat ok_X9_init_1 (i := 10) (q := 97) rfl rfl) rfl (fun c => absurd c (by decide)) (fun _ => V_aload_n (tat ok_X9_init_1 (i := 11) (q := 98) rfl rfl) 1 rfl rfl <|
    V_getR (tat ok_X9_init_1 (i := 12) (q := 101) rfl rfl) fk_X9_35 rfl rfl <|
    V_iload_n (tat ok_X9_init_1 (i := 13) (q := 102) rfl rfl) 0 rfl rfl <|
    V_bipush (tat ok_X9_init_1 (i := 14) (q := 104) rfl rfl) bp_m4 <|
    V_iast (tat ok_X9_init_1 (i := 15) (q := 105) rfl rfl) rfl (vp_in_nI (n := 3) (by decide) (by decide)) <|
    have zz26 := Zr.i (n := 45) (k := 42) (j := Int32.toNatClampNeg 3) (x := (-4)) zz25 (Nat.le_of_ble_eq_true rfl); V_iinc (v := 4) (lv' := [(1, .int 4), (0, .ref 33)]) (tat ok_X9_init_1 (i := 16) (q := 108) rfl rfl) 0 rfl (by decide) (Nat.le_of_ble_eq_true rfl) rfl <|
    V_goto (tat ok_X9_init_1 (i := 17) (q := 111) rfl rfl) rfl <|
    V_iload_n (tat ok_X9_init_1 (i := 8) (q := 93) rfl rfl) 0 rfl rfl <|
    V_iconst (tat ok_X9_init_1 (i := 9) (q := 94) rfl rfl) ic_4 <|
    V_icmp_ge (tat ok_X9_init_1 (i := 10) (q := 97) rfl rfl) rfl (fun _ => V_aload_n (tat ok_X9_init_1 (i := 18) (q := 112) rfl rfl) 1 rfl rfl <|
    V_weq rfl R9_eq <|
    V_cv0v (ct_X9_firstDraft I9 L8) mo_X9_firstDraft (tat ok_X9_init_1 (i := 19) (q := 115) rfl rfl) ml_X9_44 rfl ⟨by decide, _, rfl, rfl⟩ ⟨(Nat.le_of_ble_eq_true rfl), (Nat.le_of_ble_eq_true rfl)⟩ ⟨(Nat.le_of_ble_eq_true rfl), (Nat.le_of_ble_eq_true rfl)⟩ (Nat.le_of_ble_eq_true rfl) <|
    V_aload_n (tat ok_X9_init_1 (i := 20) (q := 116) rfl rfl) 1 rfl rfl <|
    V_cv0v (ct_X9_keepDraft (p1 (F_X9_firstDraft I9 L8)) (p2 (F_X9_firstDraft I9 L8)) hv) mo_X9_keepDraft (tat ok_X9_init_1 (i := 21) (q := 119) rfl rfl) ml_X9_47 rfl ⟨by decide, _, rfl, rfl⟩ ⟨(Nat.le_of_ble_eq_true rfl), (Nat.le_of_ble_eq_true rfl)⟩ ⟨(Nat.le_of_ble_eq_true rfl), (Nat.le_of_ble_eq_true rfl)⟩ (Nat.le_of_ble_eq_true rfl) <|
    V_vret (tat ok_X9_init_1 (i := 22) (q := 120) rfl rfl) rfl rfl ⟨(Nat.le_of_ble_eq_true rfl), (Nat.le_of_ble_eq_true rfl)⟩) (fun c => absurd (by decide) c))))))
