theorem s_0 {I : WI} {L : WL} (a1 a2 a3 a4 : Int32) (H : Inv I L) : S_0 Inv I L a1 a2 a3 a4 := let ⟨w, a, _, c⟩ := E_0 (v := ((lsh (Int32.toInt64 a1) 32) ||| ((Int32.toInt64 a2) &&& 4294967295))) H; ⟨w, a, c⟩
theorem s_1 {I : WI} {L : WL} (a1 a2 a3 a4 : Int32) (H : Inv I L) : S_1 Inv I L a1 a2 a3 a4 := (E_1 H).2
theorem s_2 {I : WI} {L : WL} (a1 a2 a3 a4 : Int32) (H : Inv I L) : S_2 Inv I L a1 a2 a3 a4 := let ⟨v, a, w, b, _, c⟩ := E_2 H; ⟨v, a, w, b, c⟩
theorem s_3 {I : WI} {L : WL} (a1 a2 a3 a4 : Int32) (H : Inv I L) : S_3 Inv I L a1 a2 a3 a4 := H
theorem s_4 {I : WI} {L : WL} (a1 a2 a3 a4 : Int32) (H : Inv I L) : S_4 Inv I L a1 a2 a3 a4 := H
theorem s_5 {I : WI} {L : WL} (a1 a2 a3 a4 : Int32) (H : Inv I L) : S_5 Inv I L a1 a2 a3 a4 := let ⟨w, a, _, c⟩ := E_5 H; ⟨w, a, c⟩
theorem s_6 {I : WI} {L : WL} (a1 a2 a3 a4 : Int32) (H : Inv I L) : S_6 Inv I L a1 a2 a3 a4 := H
theorem s_7 {I : WI} {L : WL} (a1 a2 a3 a4 : Int32) (H : Inv I L) : S_7 Inv I L a1 a2 a3 a4 := H
theorem s_8 {I : WI} {L : WL} (a1 a2 a3 a4 : Int32) (H : Inv I L) : S_8 Inv I L a1 a2 a3 a4 := (E_8 H).2
theorem s_9 {I : WI} {L : WL} (a1 a2 a3 a4 : Int32) (H : Inv I L) : S_9 Inv I L a1 a2 a3 a4 := (E_9 H).2
theorem s_10 {I : WI} {L : WL} (a1 a2 a3 a4 : Int32) (H : Inv I L) : S_10 Inv I L a1 a2 a3 a4 := let ⟨w, a, _, c⟩ := E_10 H; ⟨w, a, c⟩
theorem s_11 {I : WI} {L : WL} (a1 a2 a3 a4 : Int32) (H : Inv I L) : S_11 Inv I L a1 a2 a3 a4 := (E_11 H).2
theorem s_12 {I : WI} {L : WL} (a1 a2 a3 a4 : Int32) (H : Inv I L) : S_12 Inv I L a1 a2 a3 a4 := let ⟨w, a, _, c⟩ := E_12 H; ⟨w, a, c⟩
theorem s_13 {I : WI} {L : WL} (a1 a2 a3 a4 : Int32) (H : Inv I L) : S_13 Inv I L a1 a2 a3 a4 := H
theorem s_14 {I : WI} {L : WL} (a1 a2 a3 a4 : Int32) (H : Inv I L) : S_14 Inv I L a1 a2 a3 a4 := H
theorem s_15 {I : WI} {L : WL} (a1 a2 a3 a4 : Int32) (H : Inv I L) : S_15 Inv I L a1 a2 a3 a4 := N_15 H
theorem s_16 {I : WI} {L : WL} (a1 a2 a3 a4 : Int32) (H : Inv I L) : S_16 Inv I L a1 a2 a3 a4 := N_16 H
theorem s_17 {I : WI} {L : WL} (a1 a2 a3 a4 : Int32) (H : Inv I L) : S_17 Inv I L a1 a2 a3 a4 := N_17 H
theorem s_18 {I : WI} {L : WL} (a1 a2 a3 a4 : Int32) (H : Inv I L) : S_18 Inv I L a1 a2 a3 a4 := N_18 H
theorem s_19 {I : WI} {L : WL} (a1 a2 a3 a4 : Int32) (H : Inv I L) : S_19 Inv I L a1 a2 a3 a4 := N_19 H
theorem s_20 {I : WI} {L : WL} (a1 a2 a3 a4 : Int32) (H : Inv I L) : S_20 Inv I L a1 a2 a3 a4 := N_20 H
theorem s_21 {I : WI} {L : WL} (a1 a2 a3 a4 : Int32) (H : Inv I L) : S_21 Inv I L a1 a2 a3 a4 := N_21 H
theorem s_22 {I : WI} {L : WL} (a1 a2 a3 a4 : Int32) (H : Inv I L) : S_22 Inv I L a1 a2 a3 a4 := N_22 H
theorem s_23 {I : WI} {L : WL} (a1 a2 a3 a4 : Int32) (H : Inv I L) : S_23 Inv I L a1 a2 a3 a4 := N_23 H
theorem s_24 {I : WI} {L : WL} (a1 a2 a3 a4 : Int32) (H : Inv I L) : S_24 Inv I L a1 a2 a3 a4 := N_24 H
theorem s_25 {I : WI} {L : WL} (a1 a2 a3 a4 : Int32) (H : Inv I L) : S_25 Inv I L a1 a2 a3 a4 := N_25 H
theorem s_26 {I : WI} {L : WL} (a1 a2 a3 a4 : Int32) (H : Inv I L) : S_26 Inv I L a1 a2 a3 a4 := (E_26 H).2
theorem s_27 {I : WI} {L : WL} (a1 a2 a3 a4 : Int32) (H : Inv I L) : S_27 Inv I L a1 a2 a3 a4 := (E_27 H).2
theorem s_28 {I : WI} {L : WL} (a1 a2 a3 a4 : Int32) (H : Inv I L) : S_28 Inv I L a1 a2 a3 a4 := let ⟨w, a, _, c⟩ := E_28 H; ⟨w, a, c⟩
theorem s_29 {I : WI} {L : WL} (a1 a2 a3 a4 : Int32) (H : Inv I L) : S_29 Inv I L a1 a2 a3 a4 := N_29 H
theorem s_30 {I : WI} {L : WL} (a1 a2 a3 a4 : Int32) (H : Inv I L) : S_30 Inv I L a1 a2 a3 a4 := N_30 H
theorem s_31 {I : WI} {L : WL} (a1 a2 a3 a4 : Int32) (H : Inv I L) : S_31 Inv I L a1 a2 a3 a4 := let ⟨w, a, _, c⟩ := E_31 H; ⟨w, a, c⟩
theorem s_32 {I : WI} {L : WL} (a1 a2 a3 a4 : Int32) (H : Inv I L) : S_32 Inv I L a1 a2 a3 a4 := let ⟨w, a, _, c⟩ := E_32 H; ⟨w, a, c⟩
theorem s_33 {I : WI} {L : WL} (a1 a2 a3 a4 : Int32) (H : Inv I L) : S_33 Inv I L a1 a2 a3 a4 := let ⟨v, a, w, b, _, c⟩ := E_33 H; ⟨v, a, w, b, c⟩
theorem s_34 {I : WI} {L : WL} (a1 a2 a3 a4 : Int32) (H : Inv I L) : S_34 Inv I L a1 a2 a3 a4 := let ⟨v, a, w, b, _, c⟩ := E_34 H; ⟨v, a, w, b, c⟩
theorem s_35 {I : WI} {L : WL} (a1 a2 a3 a4 : Int32) (H : Inv I L) : S_35 Inv I L a1 a2 a3 a4 := let ⟨w, a, _, c⟩ := E_35 H; ⟨w, a, c⟩
theorem s_36 {I : WI} {L : WL} (a1 a2 a3 a4 : Int32) (H : Inv I L) : S_36 Inv I L a1 a2 a3 a4 := H
theorem s_37 {I : WI} {L : WL} (a1 a2 a3 a4 : Int32) (H : Inv I L) : S_37 Inv I L a1 a2 a3 a4 := E_37 H
theorem sw_all {I : WI} {L : WL} (H : Inv I L) (a0 a1 a2 a3 a4 : Int32) : SW Inv I L a0 a1 a2 a3 a4 := ⟨fun _ => s_0 a1 a2 a3 a4 H, fun _ => s_1 a1 a2 a3 a4 H, fun _ => s_2 a1 a2 a3 a4 H, fun _ => s_3 a1 a2 a3 a4 H, fun _ => s_4 a1 a2 a3 a4 H, fun _ => s_5 a1 a2 a3 a4 H, fun _ => s_6 a1 a2 a3 a4 H, fun _ => s_7 a1 a2 a3 a4 H, fun _ => s_8 a1 a2 a3 a4 H, fun _ => s_9 a1 a2 a3 a4 H, fun _ => s_10 a1 a2 a3 a4 H, fun _ => s_11 a1 a2 a3 a4 H, fun _ => s_12 a1 a2 a3 a4 H, fun _ => s_13 a1 a2 a3 a4 H, fun _ => s_14 a1 a2 a3 a4 H, fun _ => s_15 a1 a2 a3 a4 H, fun _ => s_16 a1 a2 a3 a4 H, fun _ => s_17 a1 a2 a3 a4 H, fun _ => s_18 a1 a2 a3 a4 H, fun _ => s_19 a1 a2 a3 a4 H, fun _ => s_20 a1 a2 a3 a4 H, fun _ => s_21 a1 a2 a3 a4 H, fun _ => s_22 a1 a2 a3 a4 H, fun _ => s_23 a1 a2 a3 a4 H, fun _ => s_24 a1 a2 a3 a4 H, fun _ => s_25 a1 a2 a3 a4 H, fun _ => s_26 a1 a2 a3 a4 H, fun _ => s_27 a1 a2 a3 a4 H, fun _ => s_28 a1 a2 a3 a4 H, fun _ => s_29 a1 a2 a3 a4 H, fun _ => s_30 a1 a2 a3 a4 H, fun _ => s_31 a1 a2 a3 a4 H, fun _ => s_32 a1 a2 a3 a4 H, fun _ => s_33 a1 a2 a3 a4 H, fun _ => s_34 a1 a2 a3 a4 H, fun _ => s_35 a1 a2 a3 a4 H, fun _ => s_36 a1 a2 a3 a4 H, fun _ => s_37 a1 a2 a3 a4 H, fun _ => H⟩
theorem whole_start {p : Program} {e : Env} {s : State} {m : MethodId} {below : List Frame} {meth : Method} {c : Code} (l : Launch) (hflags : l.flags = flags0) {b L : Nat} {xs : Nat → Int32} (hL : L ≤ 2560) (C0 : lw_At p s m meth c b L xs) : W p l e room_1 s m #[Value.ref b] below meth c s.heap [] 0 0 (lw_Z below #[Value.ref b] s) (entryFrame m ([Value.ref b] : List Value).toArray 4) := by
  exact law_start l C0 (V_head kd_0 (V_loop (by omega) (fun _ => Inv) (fun j I L H _ => sw_all H _ _ _ _ _) L 0 I0 L8 (by omega) (by omega) Inv0))
set_option maxHeartbeats 4000000 in
theorem lw_walk (l : Launch) (hflags : l.flags = flags0) (b : Addr) (xs : List Int32) : MetFree l x (headSpec (Jvm.Cond.code x code maxLocals ret :: tables_1) room_1) (lw_P b xs) (fun _ _ _ _ _ => True) lw_Q := by
  refine MetFree.of_bodyS (code := code) (maxLocals := maxLocals) (ret := ret) (by decide) ?_ ?_
  · intro args s m h hn
    obtain ⟨meth, c, h1, h2, h3, h4, h5, h6, -, -⟩ := Cond.code_spec hn (atoms_spec (ws := Jvm.Cond.code x code maxLocals ret :: tables_1) h _ List.mem_cons_self)
    exact ⟨meth, c, h1, h2, h3, h4, h5, h6⟩
  · intro p e s m args below meth c s₁ B hml0 hP _
    obtain ⟨rfl, hx, hbd, hgv⟩ := hP
    obtain ⟨scr, harrAt, hlist, hof, hsmall⟩ := hx
    obtain ⟨hcb, hkn, -, -⟩ := State.arrayAt?_spec harrAt
    have hown : s.vm.findClass R_law = some m.cls := findClass_of_methodNamed B.named
    have hts0 : ∀ c ∈ (Jvm.Cond.code x code maxLocals ret :: tables_1), c.before #[Value.ref b] s = true := atoms_spec (ws := Jvm.Cond.code x code maxLocals ret :: tables_1) B.pre
    have hts : ∀ w ∈ lw_tbl, w.before #[Value.ref b] s = true := k2_hts_sels lw_privs (fun w hw => hts0 w (List.mem_cons_of_mem _ hw)) lw_privs_ok
    have hml : c.maxLocals = 4 := B.maxLocals_eq (hts0 _ List.mem_cons_self)
    have X₀ : Stand p l e room_1 s m #[Value.ref b] below meth c s₁ [] 0 0 := Stand.of_body B
    have hh0 : s₁.heap = s.heap := by rw [B.state]; rfl
    have hsz : scr.slots.size = xs.length := by rw [← Array.length_toList, hlist, List.length_map]
    have hval : ∀ j : Nat, j < xs.length → scr.slots[j]? = some (.int (xs.getD j 0)) := fun j hj => by
      rw [← Array.getElem?_toList, hlist]
      simp [hj]
    have hbl : b < s.heap.size := (Array.getElem?_eq_some_iff.mp hcb).1
    have hX : va_X b xs.length (fun j => xs.getD j 0) s s.heap := ⟨scr, hcb, hof, hkn, hsz, hval⟩
    have K : W p l e room_1 s m #[Value.ref b] below meth c s₁.heap [] 0 0 (lw_Z below #[Value.ref b] s) (entryFrame m ([Value.ref b] : List Value).toArray 4) := by
      rw [hh0]
      exact whole_start l hflags hbd ⟨B.exec, B.bytes, B.returns, hml, hown, hts, hX, hbl, B.notSynchronized, hgv⟩
    obtain ⟨t, a1, o, b1, b2, b3⟩ := K s₁ rfl X₀
    exact ⟨t, o, a1, b1, b2, b3⟩
theorem lw_pre_spec {args : Array Value} {s : State} (h : (Jvm.Cond.and given_1 narrow_1).before args s = true) (hr : rest_1_c.before args s = true) : ∃ (b : Addr) (xs : List Int32), lw_P b xs args s := by
  have hs := flat_of_before _ h
  have hq := flat_of_before _ hr
  have hc : (Cond.count 1).before args s = true := hs _ (by decide +kernel)
  have harr : (Cond.arrayOf (.arg 0) .int).before args s = true := hs _ (by decide +kernel)
  have hle : (Cond.le (.length (.arg 0)) (.int 2560)).before args s = true := hs _ (by decide +kernel)
  have hlen : (Cond.isInt (.length (.arg 0))).before args s = true := hq _ (by decide +kernel)
  have hall : (Cond.all (.arg 0) (.isInt (.elem (.arg 0) (.index 0)))).before args s = true := hq _ (by decide +kernel)
  obtain ⟨b, xs, hb, hx⟩ := State.ints_of_pre rfl harr hlen hall
  have hsm : xs.length < 2 ^ 31 := hx.choose_spec.2.2.2
  have hev : (Term.length (.arg 0)).eval args s none [] s = some (.int xs.length.toInt32) := hx.length_eval hb
  have hv := Cond.le_ints hev (show (Term.int 2560).eval args s none [] s = some (.int 2560) from rfl)
  have hd : xs.length.toInt32 ≤ 2560 := by
    simpa [Cond.before, Cond.holds, hv] using hle
  have hN : xs.length ≤ 2560 := (Int32.ofNat_le_ofNat hsm (by decide)).mp (show Int32.ofNat xs.length ≤ Int32.ofNat 2560 from hd)
  exact ⟨b, xs, Cond.one_arg hc (show args[0]? = some (.ref b) from hb), hx, hN, h⟩
theorem lw_comes (l : Launch) (hflags : l.flags = flags0) : Comes l x (Jvm.Cond.code x code maxLocals ret :: tables_1) room_1 (fun tb e args s => Calls_1 tb e args s ∧ rest_1 tb e args s ∧ Pre_1 tb e args s)
    (fun _ _ args s o t => lw_Q args s o t) := by
  intro p e ha hc hk s m args below hf hfit hheap happ hpre
  obtain ⟨b, xs, hP⟩ := lw_pre_spec hpre.2.2 hpre.2.1
  obtain ⟨k, o, h1, h2, h3, hQ⟩ := lw_walk l hflags b xs p e ha hc hk s m args below hf ((Spec.applies_iff_loose hf).mp happ).1 hP trivial
  exact ⟨k, o, h1, h2, h3, hQ⟩
theorem lw_frame {s t : State} {o : Outcome} {args : Array Value} (h : Framed s o t [] 600000 7302250) :
    Framed s o t (fieldLocs frame_1_writes args s ++ arrayLocs frame_1_arrays args s ++ staticLocs frame_1_statics s) 600000 7302250 := h
theorem lw_limb (L : Cond) (hL : ∀ (args : Array Value) (s t : State), L.after args s (.returned (some (.int 1))) t = true) :
    ArmFor flags0 classFile x code maxLocals ret World_1 tables_1 room_1 Calls_1 rest_1 Pre_1
      (fun tb e a s o t => postC L tb e a s o t ∧ Framed s o t (fieldLocs frame_1_writes a s ++ arrayLocs frame_1_arrays a s ++ staticLocs frame_1_statics s) 600000 7302250) := by
  intro l hflags _ _ p e ha hc hk s m args below hf hfit hheap happ hpre
  obtain ⟨k, o, h1, h2, h3, rfl, hF⟩ := lw_comes l hflags p e ha hc hk s m args below hf hfit hheap happ hpre
  exact ⟨k, _, h1, h2, h3, hL args s _, lw_frame hF⟩
theorem i_vc : Claimed_1_1 ∧ Claimed_1_2 := ⟨lw_limb limb_1_1 (fun args s t => by simp [limb_1_1, Cond.after, Cond.holds, Cond.value]), lw_limb limb_1_2 (fun args s t => Cond.after_iff.mpr (by
  first | (rw [show limb_1_2 = Cond.eq .result (.int 1) from rfl, Cond.eq_ints (x := 1) (y := 1) rfl rfl]; simp; done) | (simp [limb_1_2, Cond.value, Term.eval]; done)))⟩
