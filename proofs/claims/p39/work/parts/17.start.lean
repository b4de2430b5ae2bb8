/-! THE CLAIM OUT OF ONE WALK OF THE LAW'S BODY. Your part is whole_start (and what it stands on); all else here is the same for every law, but numbers. -/
def R_law : String := "RowsColumnsLaw"
def lw_P (b : Addr) (xs : List Int32) (args : Array Value) (s : State) : Prop := args = #[.ref b] ∧ s.IntsAt b xs ∧ xs.length ≤ 2560 ∧ (Jvm.Cond.and given_1 narrow_1).before args s = true
def lw_Q (_ : Array Value) (s : State) (o : Outcome) (t : State) : Prop := o = .returned (some (.int 1)) ∧ Framed s o t [] 600000 7302250
def lw_Z (below : List Frame) (a : Array Value) (s : State) : State → Prop := fun t => ∃ o, t.status = .running ∧ Ended t below o ∧ lw_Q a s o t
/-- the law's own end, with 1 on the stack, nothing written that was there before, its room as the claim has it -/
theorem lw_ret {p : Program} {l : Launch} {e : Env} {s : State} {m : MethodId} {below : List Frame} {meth : Method} {c : Code} {b : Nat} (hx : p.tables.exec = Jvm.exec) (hb : c.code = code) (hr : meth.sig.returnType = ret) (hlocks : meth.locks = false) {pc : Nat} {H : Heap} {ls : Array Slot} (hdg : decode code pc = .ok (.ireturn, 1)) : W p l e room_1 s m #[Value.ref b] below meth c H [] 600000 7302250 (lw_Z below #[Value.ref b] s) (F0 m pc ls [.int 1]) := by
  intro T hT X
  obtain ⟨fs, hret, hrun, hended, hW, hframe⟩ := X.leave (v := some (.int 1)) (hlocks := hlocks) (fun h => by rw [hr] at h; cases h)
  have hmeth' : T.vm.method? m = some meth := X.method'
  refine ⟨T.setFrames fs, ?_, .returned (some (.int 1)), hrun, hended, rfl, ⟨_, rfl⟩, hW, hframe⟩
  jvm_step X.here [X.here.top, hx, hb, hdg, hmeth', hr, ret, narrow_b1]
  (try refine ⟨rfl, ?_⟩); (try refine ⟨rfl, ?_⟩)
  first | (intro acts; rw [hret _ acts rfl rfl rfl]) | rw [hret _ _ rfl rfl rfl]
  exact Steps.refl _
/-- what holds at the law's entry: the machine, the code, the tables' words (any of lw_tbl by 'hts w (by decide +kernel)'), the script of L ints xs at the cell b, what the Statement gives of the start (any of its parts by flat_of_before) -/
def lw_At (p : Program) (s : State) (m : MethodId) (meth : Method) (c : Code) (b L : Nat) (xs : Nat → Int32) : Prop :=
  p.tables.exec = Jvm.exec ∧ c.code = code ∧ meth.sig.returnType = ret ∧ c.maxLocals = 4 ∧ s.vm.findClass R_law = some m.cls ∧ (∀ w ∈ lw_tbl, w.before #[Value.ref b] s = true) ∧ va_X b L xs s s.heap ∧ b < s.heap.size ∧ meth.locks = false ∧ (Jvm.Cond.and given_1 narrow_1).before #[Value.ref b] s = true
theorem hA0 (s : State) : ∀ a : Nat, a < s.heap.size → ¬ s.heap.size ≤ a := fun _ h h' => Nat.not_lt.mpr h' h
section Start
variable {s : State} {args : Array Value}
theorem kn_at {ci n : Nat} {C : String} {T : u_T} {ty : Nat → FieldType} (hts : ∀ w ∈ lw_tbl, w.before args s = true) (cf : CF ci C T n ty) (hi : Cond.instantiable C n ∈ lw_tbl) : ∃ x : ClassId × (Nat → Nat), ∀ q, classes[ci]? = some q → u_Kn s q.1 q.2.1 q.2.2 x.1 x.2 := by
  obtain ⟨cC, iS, h⟩ := u_known (ws := gw) (fun w hw => hts w (gw_lw hw)) cf.2.2.1 (hts _ hi)
  refine ⟨(cC, iS), fun q hq => ?_⟩
  rw [cf.1] at hq
  cases hq
  exact h
theorem kn_all (hts : ∀ w ∈ lw_tbl, w.before args s = true) : ∃ D : va_G, ∀ (c : Nat) (q : vw_C), classes[c]? = some q → u_Kn s q.1 q.2.1 q.2.2 (D.1 c) (D.2 c) := by
  have h : ∀ c : Nat, ∃ x : ClassId × (Nat → Nat), ∀ q, classes[c]? = some q → u_Kn s q.1 q.2.1 q.2.2 x.1 x.2 := fun c => match c with
    | 0 => kn_at hts cf_X0 is_X0
    | 1 => kn_at hts cf_X1 is_X1
    | 2 => kn_at hts cf_X2 is_X2
    | 3 => kn_at hts cf_X3 is_X3
    | 4 => kn_at hts cf_X4 is_X4
    | 5 => kn_at hts cf_X5 is_X5
    | 6 => kn_at hts cf_X6 is_X6
    | 7 => kn_at hts cf_X7 is_X7
    | 8 => kn_at hts cf_X8 is_X8
    | 9 => kn_at hts cf_X9 is_X9
    | n + 10 => ⟨(kn_at hts cf_X9 is_X9).choose, fun q hq => absurd (List.getElem?_eq_some_iff.mp hq).1 (by show ¬ n + 10 < 10; omega)⟩
  obtain ⟨f, hf⟩ := Classical.axiomOfChoice h
  exact ⟨(fun c => (f c).1, fun c => (f c).2), hf⟩
theorem ar_int (h : (Cond.arrayClass .int).before args s = true) : ∃ c, ArrOfT s c .int ∧ va_RA s c .int := by
  obtain ⟨c, kA, comp, h1, h2, h3⟩ := Cond.arrayClass_spec h
  exact ⟨c, fun n z => ⟨(fun k h => by cases h), kA, h2, comp, h3⟩, h1⟩
theorem ar_long (h : (Cond.arrayClass .long).before args s = true) : ∃ c, ArrOfT s c .long ∧ va_RA s c .long := by
  obtain ⟨c, kA, comp, h1, h2, h3⟩ := Cond.arrayClass_spec h
  exact ⟨c, fun n z => ⟨(fun k h => by cases h), kA, h2, comp, h3⟩, h1⟩
theorem ar_byte (h : (Cond.arrayClass .byte).before args s = true) : ∃ c, ArrOfT s c .byte ∧ va_RA s c .byte := by
  obtain ⟨c, kA, comp, h1, h2, h3⟩ := Cond.arrayClass_spec h
  exact ⟨c, fun n z => ⟨(fun k h => by cases h), kA, h2, comp, h3⟩, h1⟩
theorem ar_obj (h : (Cond.arrayOver (.object RX3)).before args s = true) : ∃ c, ArrOfT s c (.object RX3) ∧ va_RA s c (.object RX3) := by
  obtain ⟨comp, c, kA, h1, -, h2, h3, h4⟩ := Cond.arrayOver_spec h
  exact ⟨c, fun n z => ⟨(fun k h => by cases h), kA, h2, comp, h3⟩, kA, comp, h2, h3, h1, h4⟩
def tmS (i : Nat) : Term := Term.string RX6 ((strs.getD i (0, "")).1)
def cds : List Cond := flatC (Jvm.Cond.and given_1 narrow_1)
theorem cd_1 : ∀ i, i < 6 → Cond.exactly (tmS i) "java/lang/String" ∈ cds := by decide +kernel
theorem cd_2 : ∀ i, i < 6 → Cond.eq (.field (tmS i) "java/lang/String" "coder" "B") (.int 0) ∈ cds := by decide +kernel
theorem cd_3 : ∀ i, i < 6 → Cond.arrayOf (.field (tmS i) "java/lang/String" "value" "[B") .byte ∈ cds := by decide +kernel
theorem cd_4 : ∀ i, i < 6 → Cond.eq (.length (.field (tmS i) "java/lang/String" "value" "[B")) (.int (Int32.ofNat (s_len.getD i 0))) ∈ cds := by decide +kernel
theorem cd_5 : ∀ i, i < 6 → ∀ j, j < s_len.getD i 0 → Cond.eq (.elem (.field (tmS i) "java/lang/String" "value" "[B") (.int (Int32.ofNat j))) (.int ((s_byt.getD i []).getD j 0)) ∈ cds := by decide +kernel
theorem cd_6 : ∀ i, i < 6 → ∀ j, j < 6 → i ≠ j → Cond.not (Cond.eq (tmS i) (tmS j)) ∈ cds ∨ Cond.not (Cond.eq (tmS j) (tmS i)) ∈ cds := by decide +kernel
theorem cd_7 : Cond.eq (.static "java/lang/String" "COMPACT_STRINGS" "Z") (.int 1) ∈ cds := by decide +kernel
theorem cd_8 : Cond.isRef (.static "jdk/internal/util/Preconditions" "SIOOBE_FORMATTER" "Ljava/util/function/BiFunction;") ∈ cds := by decide +kernel
theorem st_start {b : Nat} (hts : ∀ w ∈ lw_tbl, w.before args s = true) (hg : (Jvm.Cond.and given_1 narrow_1).before args s = true) : ∃ E : Ev, E.2.1 = s.heap.size ∧ E.2.2.2.2.1 999 = b ∧ ST E s := by
  have hc : ∀ c ∈ cds, c.before args s = true := flat_of_before _ hg
  obtain ⟨D, hD⟩ := kn_all hts
  obtain ⟨c0, a0⟩ := ar_int (hts _ ac_int)
  obtain ⟨c1, a1⟩ := ar_long (hts _ ac_long)
  obtain ⟨c2, a2⟩ := ar_byte (hts _ ac_byte)
  obtain ⟨c3, a3⟩ := ar_obj (hts _ ao_Sheet)
  obtain ⟨adK, adV, hS, hR⟩ := vk_Sof (args := args) (s := s) (N := 6) (tm := tmS) (len := s_len) (byt := s_byt) (A := fun q => s.heap.size ≤ q) (by decide) (fun i hi => hc _ (cd_1 i hi)) (fun i hi => hc _ (cd_2 i hi)) (fun i hi => hc _ (cd_3 i hi)) (fun i hi => hc _ (cd_4 i hi)) (fun i hi j hj => hc _ (cd_5 i hi j hj)) (fun i j hi hj hij => (cd_6 i hi j hj hij).imp (hc _) (hc _)) (hA0 s)
  have hzq := va_Zqof (A := fun q => s.heap.size ≤ q) (hts _ ls_SIOOBE_FORMATTER) (hts _ ii_J3) (hc _ cd_8) (hA0 s)
  obtain ⟨fm, hfm⟩ : ∃ fm : Option Nat, va_Z "jdk/internal/util/Preconditions" "SIOOBE_FORMATTER" "Ljava/util/function/BiFunction;" (va_rf fm) (fun q => s.heap.size ≤ q) s s.heap := by
    rcases hzq with h | ⟨t, h⟩
    · exact ⟨none, h⟩
    · exact ⟨some t, h⟩
  refine ⟨(D, s.heap.size, (fun k => match k with | 0 => c0 | 1 => c1 | 2 => c2 | _ => c3), adK, (fun i => if i = 999 then b else adV i), fm), rfl, (show (if 999 = 999 then b else adV 999) = b from if_pos rfl), ⟨hD, ?_⟩, ⟨fun i hi => ?_, hS.2⟩, ?_, va_Zof (hts _ ls_COMPACT_STRINGS) (hts _ ii_J0) (va_eqt (hc _ cd_7)) (hA0 s), hfm, ⟨va_AO.of (hts _ ao_Sheet), ?_⟩, Nat.le_refl _⟩
  · intro k q hq
    match k, hq with
    | 0, hq => cases hq; exact a0
    | 1, hq => cases hq; exact a1
    | 2, hq => cases hq; exact a2
    | 3, hq => cases hq; exact a3
  · have e : (if i = 999 then b else adV i) = adV i := if_neg (by omega)
    have h := hS.1 i hi
    rw [← e] at h
    exact h
  · intro i q hq
    have hi : i < 6 := (List.getElem?_eq_some_iff.mp hq).1
    have h := hR i hi
    have e : tmS i = Term.string RX6 q.1 := by
      unfold tmS
      rw [List.getD_eq_getElem?_getD, hq]
      rfl
    rw [e] at h
    refine vk_R.of (A := args) (hts _ ?_) h
    match i, hq with
    | 0, hq => cases hq; exact sr_X6_68
    | 1, hq => cases hq; exact sr_X6_78
    | 2, hq => cases hq; exact sr_X6_80
    | 3, hq => cases hq; exact sr_X6_150
    | 4, hq => cases hq; exact sr_X6_152
    | 5, hq => cases hq; exact sr_X6_154
  · exact List.forall_mem_cons.mpr ⟨va_Nw.of rfl (hts _ mn_X8_32), List.forall_mem_cons.mpr ⟨va_Nw.of rfl (hts _ mn_X8_39), List.forall_mem_cons.mpr ⟨va_Nw.of rfl (hts _ mn_X6_25), List.forall_mem_cons.mpr ⟨va_Nw.of rfl (hts _ mn_X4_17), List.forall_mem_cons.mpr ⟨va_Nw.of rfl (hts _ mn_X8_62), List.forall_mem_cons.mpr ⟨va_Nw.of rfl (hts _ mn_X8_69), fun _ h => absurd h List.not_mem_nil⟩⟩⟩⟩⟩⟩
end Start
def ZL (n : Nat) (xs : Nat → Int32) : Cx := ((yL_law, cL_law, 4, some .boolean), room_1, (fun E below args s t => args = #[Value.ref (E.2.2.2.2.1 999)] ∧ E.2.1 = s.heap.size → lw_Z below args s t), some (n, xs))
theorem V_lend {n : Nat} {xs : Nat → Int32} {pc q : Nat} {lv : List (Nat × Value)} {y : Ly} {I : WI} {L : WL} {R : WR} {kc ks : Nat} (h : At cL_law pc .ireturn 1 q) (hc : kc ≤ 600000 ∧ ks ≤ 7302250) : V (ZL n xs) pc lv [.int 1] y I L R kc ks := by
  intro E p l e s m args below meth c H locs ls F D N S hl
  by_cases hz : args = #[Value.ref (E.2.2.2.2.1 999)] ∧ E.2.1 = s.heap.size
  · obtain ⟨rfl, hb⟩ := hz
    refine va_forget (fun q hq => Nat.le_trans (Nat.le_of_eq hb.symm) (S.2.2 q hq)) ?_
    refine W.widen hc.1 hc.2 ?_
    intro T hT X
    obtain ⟨t, a, k⟩ := lw_ret F.1 F.2.1 F.2.2.2.2.2.1 F.2.2.2.2.2.2.1 (H := H) (ls := ls) h.1 T hT X
    exact ⟨t, a, fun _ => k⟩
  · intro T hT X
    exact ⟨_, Steps.refl _, fun h' => absurd h' hz⟩
set_option maxRecDepth 20000 in
theorem law_start {p : Program} {e : Env} {s : State} {m : MethodId} {below : List Frame} {meth : Method} {c : Code} (l : Launch) {b L : Nat} {xs : Nat → Int32} (C0 : lw_At p s m meth c b L xs) (hV : V (ZL L xs) 0 [(0, .ref 2999)] [] [] (fun _ _ => 0) L8 (fun _ _ => none) 0 0) : W p l e room_1 s m #[Value.ref b] below meth c s.heap [] 0 0 (lw_Z below #[Value.ref b] s) (entryFrame m ([Value.ref b] : List Value).toArray 4) := by
  obtain ⟨h1, h2, h3, h4, h5, h6, h7, h8, h9, h10⟩ := C0
  obtain ⟨E, e1, e2, hS⟩ := st_start (b := b) h6 h10
  have hg : gv E (.ref 2999) = .ref b := by
    simp [gv, gr, ga, va_rf, e2]
  rw [lg_entry_eq]
  have hl := lv_entry (n := 4) [Value.ref b] (Nat.le_of_ble_eq_true rfl)
  have k := hV E p l e s m #[Value.ref b] below meth c s.heap [] _ ⟨h1, h2, h4, h5, fun w hw => h6 w (gw_lw hw), h3, h9, ⟨fun h => absurd h (by show ¬ "law" = "<init>"; decide), fun q hq => by cases hq; rw [e2, e1]; exact ⟨h7, h8, h8⟩⟩, hS⟩ ⟨fun k q hq => (by cases hq), Nat.zero_le _⟩ (by rw [e1]; rfl) va_S.rf (by rw [show gl E [(0, Value.ref 2999)] = [(0, Value.ref b)] by simp [gl, hg]]; exact hl)
  intro T hT X
  obtain ⟨t, a, z⟩ := k T hT X
  exact ⟨t, a, z ⟨by rw [e2], e1⟩⟩
