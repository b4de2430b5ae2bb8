def chk_0 (a1 a2 : Int32) : Bool := (match (F_X9_feed (p2 (F_X8_feed I0 ((lsh (Int32.toInt64 a1) 32) ||| ((Int32.toInt64 a2) &&& 4294967295)))) ((lsh (Int32.toInt64 a1) 32) ||| ((Int32.toInt64 a2) &&& 4294967295))) with
  | none => false
  | some w => decide ((p1 (F_X8_feed I0 ((lsh (Int32.toInt64 a1) 32) ||| ((Int32.toInt64 a2) &&& 4294967295)))) = (p1 w)))
theorem sc_0 {a1 a2 a3 a4 : Int32} : chk_0 a1 a2 = true → S_0 (fun _ _ => True) I0 L8 a1 a2 a3 a4 := by
  intro h
  unfold chk_0 at h
  split at h
  · exact absurd h (by decide)
  · next w ew =>
      exact ⟨w, ew, of_decide_eq_true h, trivial⟩
def chk_1 (a1 : Int32) : Bool := decide ((p1 (F_X8_end I0 a1)) = (p1 (F_X9_end (p2 (F_X8_end I0 a1)) a1)))
theorem sc_1 {a1 a2 a3 a4 : Int32} : chk_1 a1 = true → S_1 (fun _ _ => True) I0 L8 a1 a2 a3 a4 := by
  intro h
  unfold chk_1 at h
  exact ⟨of_decide_eq_true h, trivial⟩
def chk_2 : Bool := (match (F_X8_text I0 L8) with
  | none => false
  | some v => (match (F_X9_text (p1 (p2 v)) (p2 (p2 v))) with
  | none => false
  | some w => decide ((p1 v) = (p1 w))))
theorem sc_2 {a1 a2 a3 a4 : Int32} : chk_2 = true → S_2 (fun _ _ => True) I0 L8 a1 a2 a3 a4 := by
  intro h
  unfold chk_2 at h
  split at h
  · exact absurd h (by decide)
  · next v ev =>
      split at h
      · exact absurd h (by decide)
      · next w ew =>
          exact ⟨v, ev, w, ew, of_decide_eq_true h, trivial⟩
def chk_3 : Bool := decide ((F_X8_fault I0) = (F_X9_fault I0))
theorem sc_3 {a1 a2 a3 a4 : Int32} : chk_3 = true → S_3 (fun _ _ => True) I0 L8 a1 a2 a3 a4 := by
  intro h
  unfold chk_3 at h
  exact ⟨of_decide_eq_true h, trivial⟩
def chk_4 (a1 : Int32) : Bool := decide ((F_X8_rule I0 a1) = (F_X9_rule I0 a1))
theorem sc_4 {a1 a2 a3 a4 : Int32} : chk_4 a1 = true → S_4 (fun _ _ => True) I0 L8 a1 a2 a3 a4 := by
  intro h
  unfold chk_4 at h
  exact ⟨of_decide_eq_true h, trivial⟩
def chk_5 (a1 a2 : Int32) : Bool := (match (F_X9_day I0 a1 a2) with
  | none => false
  | some w => decide ((F_X8_day I0 a1 a2) = w))
theorem sc_5 {a1 a2 a3 a4 : Int32} : chk_5 a1 a2 = true → S_5 (fun _ _ => True) I0 L8 a1 a2 a3 a4 := by
  intro h
  unfold chk_5 at h
  split at h
  · exact absurd h (by decide)
  · next w ew =>
      exact ⟨w, ew, of_decide_eq_true h, trivial⟩
def chk_6 (a1 : Int32) : Bool := decide ((F_X8_cloth I0 L8 a1) = (F_X9_cloth I0 L8 a1))
theorem sc_6 {a1 a2 a3 a4 : Int32} : chk_6 a1 = true → S_6 (fun _ _ => True) I0 L8 a1 a2 a3 a4 := by
  intro h
  unfold chk_6 at h
  exact ⟨of_decide_eq_true h, trivial⟩
def chk_7 (a1 a2 : Int32) : Bool := decide ((F_X8_square I0 L8 a1 a2) = (F_X9_square I0 L8 a1 a2))
theorem sc_7 {a1 a2 a3 a4 : Int32} : chk_7 a1 a2 = true → S_7 (fun _ _ => True) I0 L8 a1 a2 a3 a4 := by
  intro h
  unfold chk_7 at h
  exact ⟨of_decide_eq_true h, trivial⟩
def chk_8 (a1 a2 a3 : Int32) : Bool := decide ((p1 (F_X8_paint I0 L8 a1 a2 (nz a3))) = (p1 (F_X9_paint I0 (p2 (F_X8_paint I0 L8 a1 a2 (nz a3))) a1 a2 (nz a3))))
theorem sc_8 {a1 a2 a3 a4 : Int32} : chk_8 a1 a2 a3 = true → S_8 (fun _ _ => True) I0 L8 a1 a2 a3 a4 := by
  intro h
  unfold chk_8 at h
  exact ⟨of_decide_eq_true h, trivial⟩
def chk_9 (a1 a2 a3 : Int32) : Bool := decide ((p1 (F_X8_wish I0 L8 a1 a2 (nz a3))) = (p1 (F_X9_wish I0 (p2 (F_X8_wish I0 L8 a1 a2 (nz a3))) a1 a2 (nz a3))))
theorem sc_9 {a1 a2 a3 a4 : Int32} : chk_9 a1 a2 a3 = true → S_9 (fun _ _ => True) I0 L8 a1 a2 a3 a4 := by
  intro h
  unfold chk_9 at h
  exact ⟨of_decide_eq_true h, trivial⟩
def chk_10 (a1 a2 : Int32) : Bool := (match (F_X9_act I0 (p2 (F_X8_act I0 L8 a1 a2)) a1 a2) with
  | none => false
  | some w => decide ((p1 (F_X8_act I0 L8 a1 a2)) = (p1 w)))
theorem sc_10 {a1 a2 a3 a4 : Int32} : chk_10 a1 a2 = true → S_10 (fun _ _ => True) I0 L8 a1 a2 a3 a4 := by
  intro h
  unfold chk_10 at h
  split at h
  · exact absurd h (by decide)
  · next w ew =>
      exact ⟨w, ew, of_decide_eq_true h, trivial⟩
def chk_11 (a1 a2 : Int32) : Bool := decide ((p1 (F_X8_turn I0 L8 a1 a2)) = (p1 (F_X9_turn I0 (p2 (F_X8_turn I0 L8 a1 a2)) a1 a2)))
theorem sc_11 {a1 a2 a3 a4 : Int32} : chk_11 a1 a2 = true → S_11 (fun _ _ => True) I0 L8 a1 a2 a3 a4 := by
  intro h
  unfold chk_11 at h
  exact ⟨of_decide_eq_true h, trivial⟩
def chk_12 (a1 : Int32) : Bool := (match (F_X9_go I0 (p2 (F_X8_go I0 L8 a1)) a1) with
  | none => false
  | some w => decide ((p1 (F_X8_go I0 L8 a1)) = (p1 w)))
theorem sc_12 {a1 a2 a3 a4 : Int32} : chk_12 a1 = true → S_12 (fun _ _ => True) I0 L8 a1 a2 a3 a4 := by
  intro h
  unfold chk_12 at h
  split at h
  · exact absurd h (by decide)
  · next w ew =>
      exact ⟨w, ew, of_decide_eq_true h, trivial⟩
def chk_13 (a1 : Int32) : Bool := decide ((F_X8_form I0 L8 a1) = (F_X9_form I0 L8 a1))
theorem sc_13 {a1 a2 a3 a4 : Int32} : chk_13 a1 = true → S_13 (fun _ _ => True) I0 L8 a1 a2 a3 a4 := by
  intro h
  unfold chk_13 at h
  exact ⟨of_decide_eq_true h, trivial⟩
def chk_14 : Bool := decide ((F_X8_forms I0) = (F_X9_forms I0))
theorem sc_14 {a1 a2 a3 a4 : Int32} : chk_14 = true → S_14 (fun _ _ => True) I0 L8 a1 a2 a3 a4 := by
  intro h
  unfold chk_14 at h
  exact ⟨of_decide_eq_true h, trivial⟩
def chk_15 (a1 : Int32) : Bool := (match (F_X9_alike I0 L8 a1) with
  | none => false
  | some w => decide ((F_X8_alike I0 L8 a1) = w))
theorem sc_15 {a1 a2 a3 a4 : Int32} : chk_15 a1 = true → S_15 (fun _ _ => True) I0 L8 a1 a2 a3 a4 := by
  intro h
  unfold chk_15 at h
  split at h
  · exact absurd h (by decide)
  · next w ew =>
      exact ⟨w, ew, of_decide_eq_true h, trivial⟩
def chk_16 (a1 : Int32) : Bool := decide ((p1 (F_X8_plan I0 L8 a1)) = (p1 (F_X9_plan (p2 (F_X8_plan I0 L8 a1)) L8 a1)))
theorem sc_16 {a1 a2 a3 a4 : Int32} : chk_16 a1 = true → S_16 (fun _ _ => True) I0 L8 a1 a2 a3 a4 := by
  intro h
  unfold chk_16 at h
  exact ⟨of_decide_eq_true h, trivial⟩
def chk_17 (a1 : Int32) : Bool := (match (F_X8_nearest I0 L8 a1) with
  | none => false
  | some v => (match (F_X9_nearest (p2 v) L8 a1) with
  | none => false
  | some w => decide ((p1 v) = (p1 w))))
theorem sc_17 {a1 a2 a3 a4 : Int32} : chk_17 a1 = true → S_17 (fun _ _ => True) I0 L8 a1 a2 a3 a4 := by
  intro h
  unfold chk_17 at h
  split at h
  · exact absurd h (by decide)
  · next v ev =>
      split at h
      · exact absurd h (by decide)
      · next w ew =>
          exact ⟨v, ev, w, ew, of_decide_eq_true h, trivial⟩
def chk_18 (a1 : Int32) : Bool := (match (F_X8_lightest I0 L8 a1) with
  | none => false
  | some v => (match (F_X9_lightest (p2 v) L8 a1) with
  | none => false
  | some w => decide ((p1 v) = (p1 w))))
theorem sc_18 {a1 a2 a3 a4 : Int32} : chk_18 a1 = true → S_18 (fun _ _ => True) I0 L8 a1 a2 a3 a4 := by
  intro h
  unfold chk_18 at h
  split at h
  · exact absurd h (by decide)
  · next v ev =>
      split at h
      · exact absurd h (by decide)
      · next w ew =>
          exact ⟨v, ev, w, ew, of_decide_eq_true h, trivial⟩
def chk_19 (a1 : Int32) : Bool := (match (F_X8_blind I0 L8 a1) with
  | none => false
  | some v => (match (F_X9_blind (p2 v) L8 a1) with
  | none => false
  | some w => decide ((p1 v) = w)))
theorem sc_19 {a1 a2 a3 a4 : Int32} : chk_19 a1 = true → S_19 (fun _ _ => True) I0 L8 a1 a2 a3 a4 := by
  intro h
  unfold chk_19 at h
  split at h
  · exact absurd h (by decide)
  · next v ev =>
      split at h
      · exact absurd h (by decide)
      · next w ew =>
          exact ⟨v, ev, w, ew, of_decide_eq_true h, trivial⟩
def chk_20 (a1 : Int32) : Bool := (match (F_X8_slanted I0 L8 a1) with
  | none => false
  | some v => (match (F_X9_slanted (p1 (p2 v)) (p2 (p2 v)) a1) with
  | none => false
  | some w => decide ((p1 v) = (p1 w))))
theorem sc_20 {a1 a2 a3 a4 : Int32} : chk_20 a1 = true → S_20 (fun _ _ => True) I0 L8 a1 a2 a3 a4 := by
  intro h
  unfold chk_20 at h
  split at h
  · exact absurd h (by decide)
  · next v ev =>
      split at h
      · exact absurd h (by decide)
      · next w ew =>
          exact ⟨v, ev, w, ew, of_decide_eq_true h, trivial⟩
def chk_21 (a1 : Int32) : Bool := (match (F_X8_power I0 L8 a1) with
  | none => false
  | some v => (match (F_X9_power I0 (p2 v) a1) with
  | none => false
  | some w => decide ((p1 v) = (p1 w))))
theorem sc_21 {a1 a2 a3 a4 : Int32} : chk_21 a1 = true → S_21 (fun _ _ => True) I0 L8 a1 a2 a3 a4 := by
  intro h
  unfold chk_21 at h
  split at h
  · exact absurd h (by decide)
  · next v ev =>
      split at h
      · exact absurd h (by decide)
      · next w ew =>
          exact ⟨v, ev, w, ew, of_decide_eq_true h, trivial⟩
def chk_22 (a1 a2 a3 : Int32) : Bool := (match (F_X8_duel I0 L8 a1 (nz a2) a3) with
  | none => false
  | some v => (match (F_X9_duel I0 L8 a1 (nz a2) a3) with
  | none => false
  | some w => decide (v = (p1 w))))
theorem sc_22 {a1 a2 a3 a4 : Int32} : chk_22 a1 a2 a3 = true → S_22 (fun _ _ => True) I0 L8 a1 a2 a3 a4 := by
  intro h
  unfold chk_22 at h
  split at h
  · exact absurd h (by decide)
  · next v ev =>
      split at h
      · exact absurd h (by decide)
      · next w ew =>
          exact ⟨v, ev, w, ew, of_decide_eq_true h, trivial⟩
def chk_23 (a1 a2 : Int32) : Bool := (match (F_X9_turned (p2 (F_X8_turned I0 L8 a1 a2)) L8 a1 a2) with
  | none => false
  | some w => decide ((p1 (F_X8_turned I0 L8 a1 a2)) = (p1 w)))
theorem sc_23 {a1 a2 a3 a4 : Int32} : chk_23 a1 a2 = true → S_23 (fun _ _ => True) I0 L8 a1 a2 a3 a4 := by
  intro h
  unfold chk_23 at h
  split at h
  · exact absurd h (by decide)
  · next w ew =>
      exact ⟨w, ew, of_decide_eq_true h, trivial⟩
def chk_24 (a1 : Int32) : Bool := decide ((p1 (F_X8_spoilt I0 L8 a1)) = (F_X9_spoilt (p2 (F_X8_spoilt I0 L8 a1)) L8 a1))
theorem sc_24 {a1 a2 a3 a4 : Int32} : chk_24 a1 = true → S_24 (fun _ _ => True) I0 L8 a1 a2 a3 a4 := by
  intro h
  unfold chk_24 at h
  exact ⟨of_decide_eq_true h, trivial⟩
def chk_25 (a1 : Int32) : Bool := (match (F_X8_both I0 L8 a1) with
  | none => false
  | some v => decide ((p1 v) = (F_X9_both (p1 (p2 v)) (p2 (p2 v)) a1)))
theorem sc_25 {a1 a2 a3 a4 : Int32} : chk_25 a1 = true → S_25 (fun _ _ => True) I0 L8 a1 a2 a3 a4 := by
  intro h
  unfold chk_25 at h
  split at h
  · exact absurd h (by decide)
  · next v ev =>
      exact ⟨v, ev, of_decide_eq_true h, trivial⟩
def chk_26 (a1 : Int32) : Bool := decide ((p1 (F_X8_rotate I0 L8 a1)) = (p1 (F_X9_rotate (p1 (p2 (F_X8_rotate I0 L8 a1))) (p2 (p2 (F_X8_rotate I0 L8 a1))) a1)))
theorem sc_26 {a1 a2 a3 a4 : Int32} : chk_26 a1 = true → S_26 (fun _ _ => True) I0 L8 a1 a2 a3 a4 := by
  intro h
  unfold chk_26 at h
  exact ⟨of_decide_eq_true h, trivial⟩
def chk_27 (a1 a2 a3 a4 : Int32) : Bool := decide ((p1 (F_X8_cut I0 L8 a1 a2 a3 a4)) = (p1 (F_X9_cut (p1 (p2 (F_X8_cut I0 L8 a1 a2 a3 a4))) (p2 (p2 (F_X8_cut I0 L8 a1 a2 a3 a4))) a1 a2 a3 a4)))
theorem sc_27 {a1 a2 a3 a4 : Int32} : chk_27 a1 a2 a3 a4 = true → S_27 (fun _ _ => True) I0 L8 a1 a2 a3 a4 := by
  intro h
  unfold chk_27 at h
  exact ⟨of_decide_eq_true h, trivial⟩
def chk_28 (a1 a2 : Int32) : Bool := (match (F_X9_sew (p1 (p2 (F_X8_sew I0 L8 a1 (nz a2)))) (p2 (p2 (F_X8_sew I0 L8 a1 (nz a2)))) a1 (nz a2)) with
  | none => false
  | some w => decide ((p1 (F_X8_sew I0 L8 a1 (nz a2))) = (p1 w)))
theorem sc_28 {a1 a2 a3 a4 : Int32} : chk_28 a1 a2 = true → S_28 (fun _ _ => True) I0 L8 a1 a2 a3 a4 := by
  intro h
  unfold chk_28 at h
  split at h
  · exact absurd h (by decide)
  · next w ew =>
      exact ⟨w, ew, of_decide_eq_true h, trivial⟩
def chk_29 (a1 : Int32) : Bool := decide ((p1 (F_X8_name I0 L8 a1)) = (p1 (F_X9_name (p1 (p2 (F_X8_name I0 L8 a1))) (p2 (p2 (F_X8_name I0 L8 a1))) a1)))
theorem sc_29 {a1 a2 a3 a4 : Int32} : chk_29 a1 = true → S_29 (fun _ _ => True) I0 L8 a1 a2 a3 a4 := by
  intro h
  unfold chk_29 at h
  exact ⟨of_decide_eq_true h, trivial⟩
def chk_30 (a1 : Int32) : Bool := (match (F_X9_cousin (p1 (p2 (F_X8_cousin I0 L8 a1))) (p2 (p2 (F_X8_cousin I0 L8 a1))) a1) with
  | none => false
  | some w => decide ((p1 (F_X8_cousin I0 L8 a1)) = (p1 w)))
theorem sc_30 {a1 a2 a3 a4 : Int32} : chk_30 a1 = true → S_30 (fun _ _ => True) I0 L8 a1 a2 a3 a4 := by
  intro h
  unfold chk_30 at h
  split at h
  · exact absurd h (by decide)
  · next w ew =>
      exact ⟨w, ew, of_decide_eq_true h, trivial⟩
def chk_31 (a1 : Int32) : Bool := (match (F_X9_keep (p1 (p2 (F_X8_keep I0 L8 a1))) (p2 (p2 (F_X8_keep I0 L8 a1))) a1) with
  | none => false
  | some w => decide ((p1 (F_X8_keep I0 L8 a1)) = (p1 w)))
theorem sc_31 {a1 a2 a3 a4 : Int32} : chk_31 a1 = true → S_31 (fun _ _ => True) I0 L8 a1 a2 a3 a4 := by
  intro h
  unfold chk_31 at h
  split at h
  · exact absurd h (by decide)
  · next w ew =>
      exact ⟨w, ew, of_decide_eq_true h, trivial⟩
def chk_32 (a1 : Int32) : Bool := (match (F_X9_back (p1 (p2 (F_X8_back I0 L8 a1))) (p2 (p2 (F_X8_back I0 L8 a1))) a1) with
  | none => false
  | some w => decide ((p1 (F_X8_back I0 L8 a1)) = (p1 w)))
theorem sc_32 {a1 a2 a3 a4 : Int32} : chk_32 a1 = true → S_32 (fun _ _ => True) I0 L8 a1 a2 a3 a4 := by
  intro h
  unfold chk_32 at h
  split at h
  · exact absurd h (by decide)
  · next w ew =>
      exact ⟨w, ew, of_decide_eq_true h, trivial⟩
def chk_33 (a1 a2 a3 : Int32) : Bool := (match (F_X8_sheet I0 a1 a2 a3) with
  | none => false
  | some v => (match (F_X9_sheet (p2 v) a1 a2 a3) with
  | none => false
  | some w => decide ((p1 v) = (p1 w))))
theorem sc_33 {a1 a2 a3 a4 : Int32} : chk_33 a1 a2 a3 = true → S_33 (fun _ _ => True) I0 L8 a1 a2 a3 a4 := by
  intro h
  unfold chk_33 at h
  split at h
  · exact absurd h (by decide)
  · next v ev =>
      split at h
      · exact absurd h (by decide)
      · next w ew =>
          exact ⟨v, ev, w, ew, of_decide_eq_true h, trivial⟩
def chk_34 (a1 a2 a3 : Int32) : Bool := (match (F_X8_lay I0 a1 a2 a3) with
  | none => false
  | some v => (match (F_X9_lay (p2 v) a1 a2 a3) with
  | none => false
  | some w => decide ((p1 v) = (p1 w))))
theorem sc_34 {a1 a2 a3 a4 : Int32} : chk_34 a1 a2 a3 = true → S_34 (fun _ _ => True) I0 L8 a1 a2 a3 a4 := by
  intro h
  unfold chk_34 at h
  split at h
  · exact absurd h (by decide)
  · next v ev =>
      split at h
      · exact absurd h (by decide)
      · next w ew =>
          exact ⟨v, ev, w, ew, of_decide_eq_true h, trivial⟩
def chk_35 (a1 a2 a3 a4 : Int32) : Bool := (match (F_X9_read (p1 (p2 (F_X8_read I0 L8 a1 a2 a3 a4))) (p2 (p2 (F_X8_read I0 L8 a1 a2 a3 a4))) a1 a2 a3 a4) with
  | none => false
  | some w => decide ((p1 (F_X8_read I0 L8 a1 a2 a3 a4)) = (p1 w)))
theorem sc_35 {a1 a2 a3 a4 : Int32} : chk_35 a1 a2 a3 a4 = true → S_35 (fun _ _ => True) I0 L8 a1 a2 a3 a4 := by
  intro h
  unfold chk_35 at h
  split at h
  · exact absurd h (by decide)
  · next w ew =>
      exact ⟨w, ew, of_decide_eq_true h, trivial⟩
def chk_36 : Bool := decide ((F_X8_torn I0) = (F_X9_torn I0))
theorem sc_36 {a1 a2 a3 a4 : Int32} : chk_36 = true → S_36 (fun _ _ => True) I0 L8 a1 a2 a3 a4 := by
  intro h
  unfold chk_36 at h
  exact ⟨of_decide_eq_true h, trivial⟩
def chk_37 (a1 : Int32) : Bool := (match (F_X9_count I0 L8 a1) with
  | none => false
  | some w => decide ((F_X8_count I0 L8 a1) = w))
theorem sc_37 {a1 a2 a3 a4 : Int32} : chk_37 a1 = true → S_37 (fun _ _ => True) I0 L8 a1 a2 a3 a4 := by
  intro h
  unfold chk_37 at h
  split at h
  · exact absurd h (by decide)
  · next w ew =>
      exact ⟨w, ew, of_decide_eq_true h, trivial⟩
theorem k2 : chk_2 = true := by decide +kernel
theorem k3 : chk_3 = true := by decide +kernel
theorem k14 : chk_14 = true := by decide +kernel
theorem k36 : chk_36 = true := by decide +kernel
theorem k4 : ∀ a ∈ [0, 1, 2, 3, 4], chk_4 a = true := by decide +kernel
theorem k6 : ∀ a ∈ [0, 1], chk_6 a = true := by decide +kernel
theorem k13 : ∀ a ∈ [0, 1], chk_13 a = true := by decide +kernel
theorem k12 : ∀ a ∈ [0], chk_12 a = true := by decide +kernel
theorem k15 : ∀ a ∈ [0, 1], chk_15 a = true := by decide +kernel
theorem k16 : ∀ a ∈ [0, 1, 2, 3], chk_16 a = true := by decide +kernel
theorem k17 : ∀ a ∈ [0, 1, 2], chk_17 a = true := by decide +kernel
theorem k21 : ∀ a ∈ [0, 1], chk_21 a = true := by decide +kernel
