/-! decoding by a window of the code: the kernel reads few bytes, not the whole array -/
def rdc_Ag (c w : ByteArray) (s : Nat) : Prop := ∀ (i : Nat) (b : UInt8), w.data.toList[i]? = some b → c.data.toList[s + i]? = some b
def rdc_Loc {α : Type} (c w : ByteArray) (s : Nat) (r r' : Decoder α) : Prop := ∀ (q : Nat) (a : α) (q' : Nat), Reader.runAt r' w q = .ok (a, q') → Reader.runAt r c (s + q) = .ok (a, s + q')
theorem rdc_pure {α : Type} {c w : ByteArray} {s : Nat} {a : α} : rdc_Loc c w s (pure a) (pure a) := fun q a' q' h => by
  have h' : (Except.ok (a, q) : Except DecodeError (α × Nat)) = .ok (a', q') := h
  injection h' with e
  injection e with e1 e2
  subst e1
  subst e2
  rfl
theorem rdc_bind {α β : Type} {c w : ByteArray} {s : Nat} {r r' : Decoder α} {f f' : α → Decoder β} (h : rdc_Loc c w s r r') (hf : ∀ a, rdc_Loc c w s (f a) (f' a)) : rdc_Loc c w s (r >>= f) (r' >>= f') := fun q a q' e => by
  have e' : (Reader.runAt r' w q).bind (fun x => Reader.runAt (f' x.1) w x.2) = .ok (a, q') := e
  show (Reader.runAt r c (s + q)).bind (fun x => Reader.runAt (f x.1) c x.2) = _
  cases hx : Reader.runAt r' w q with
  | error z =>
    rw [hx] at e'
    cases e'
  | ok x =>
    rw [hx] at e'
    rw [h q x.1 x.2 hx]
    exact hf x.1 x.2 a q' e'
theorem rdc_map {α β : Type} {c w : ByteArray} {s : Nat} {r r' : Decoder α} {g : α → β} (h : rdc_Loc c w s r r') : rdc_Loc c w s (g <$> r) (g <$> r') := fun q a q' e => by
  have e' : (Reader.runAt r' w q).bind (fun x => (.ok (g x.1, x.2) : Except DecodeError (β × Nat))) = .ok (a, q') := e
  show (Reader.runAt r c (s + q)).bind (fun x => (.ok (g x.1, x.2) : Except DecodeError (β × Nat))) = _
  cases hx : Reader.runAt r' w q with
  | error z =>
    rw [hx] at e'
    cases e'
  | ok x =>
    rw [hx] at e'
    rw [h q x.1 x.2 hx]
    have e2 : (Except.ok (g x.1, x.2) : Except DecodeError (β × Nat)) = .ok (a, q') := e'
    injection e2 with e
    injection e with e1 e3
    subst e1
    subst e3
    rfl
theorem rdc_u1_eq {c : ByteArray} {p : Nat} : Reader.runAt (Reader.u1 : Decoder Nat) c p = match c.data.toList[p]? with
    | some b => .ok (b.toNat, p + 1)
    | none => .error (.truncated p) := by
  show (dite (p < c.size) (fun h => (do set (p + 1); pure (c[p]'h).toNat : Decoder Nat)) (fun _ => throw (.truncated p))) c p = _
  by_cases h : p < c.size
  · have e : c.data.toList[p]? = some (c[p]'h) := by
      rw [Array.getElem?_toList, Array.getElem?_eq_getElem h]
      rfl
    rw [dif_pos h, e]
    rfl
  · have e : c.data.toList[p]? = none := by
      rw [Array.getElem?_toList]
      exact Array.getElem?_eq_none (Nat.le_of_not_lt h)
    rw [dif_neg h, e]
    rfl
theorem rdc_u1 {c w : ByteArray} {s : Nat} (hA : rdc_Ag c w s) : rdc_Loc c w s Reader.u1 Reader.u1 := fun q a q' e => by
  rw [rdc_u1_eq] at e ⊢
  cases hx : w.data.toList[q]? with
  | none =>
    rw [hx] at e
    cases e
  | some b =>
    rw [hx] at e
    rw [hA q b hx]
    injection e with e
    injection e with e1 e3
    subst e1
    subst e3
    rfl
theorem rdc_u2 {c w : ByteArray} {s : Nat} (hA : rdc_Ag c w s) : rdc_Loc c w s Reader.u2 Reader.u2 := rdc_bind (rdc_u1 hA) fun _ => rdc_bind (rdc_u1 hA) fun _ => rdc_pure
theorem rdc_s1 {c w : ByteArray} {s : Nat} (hA : rdc_Ag c w s) : rdc_Loc c w s Reader.s1 Reader.s1 := rdc_map (rdc_u1 hA)
theorem rdc_s2 {c w : ByteArray} {s : Nat} (hA : rdc_Ag c w s) : rdc_Loc c w s Reader.s2 Reader.s2 := rdc_map (rdc_u2 hA)
def rdc_Op (op : Nat) : Prop := ∀ (c w : ByteArray) (s pc pc' : Nat), rdc_Ag c w s → ∀ (b : UInt8), w.data.toList[0]? = some b → b.toNat = op → ∀ (a : Instr) (q' : Nat), Reader.runAt (Decoder.instr pc') w 0 = .ok (a, q') → Reader.runAt (Decoder.instr pc) c s = .ok (a, s + q')
theorem rdc_op {c w : ByteArray} {s : Nat} {f f' : Nat → Decoder Instr} {b : UInt8} {op : Nat} (hA : rdc_Ag c w s) (hb : w.data.toList[0]? = some b) (he : b.toNat = op) (h : rdc_Loc c w s (f op) (f' op)) (a : Instr) (q' : Nat) (e : Reader.runAt (Reader.u1 >>= f') w 0 = .ok (a, q')) : Reader.runAt (Reader.u1 >>= f) c s = .ok (a, s + q') := by
  have e' : (Reader.runAt (Reader.u1 : Decoder Nat) w 0).bind (fun x => Reader.runAt (f' x.1) w x.2) = .ok (a, q') := e
  show (Reader.runAt (Reader.u1 : Decoder Nat) c s).bind (fun x => Reader.runAt (f x.1) c x.2) = _
  rw [rdc_u1_eq, hb] at e'
  rw [rdc_u1_eq, show c.data.toList[s]? = some b from hA 0 b hb]
  rw [← he] at h
  exact h 1 a q' e'
theorem rdc_op_1 : rdc_Op 1 := fun _ _ _ _ _ hA _ hb he => rdc_op hA hb he (rdc_pure)
theorem rdc_op_2 : rdc_Op 2 := fun _ _ _ _ _ hA _ hb he => rdc_op hA hb he (rdc_pure)
theorem rdc_op_3 : rdc_Op 3 := fun _ _ _ _ _ hA _ hb he => rdc_op hA hb he (rdc_pure)
theorem rdc_op_4 : rdc_Op 4 := fun _ _ _ _ _ hA _ hb he => rdc_op hA hb he (rdc_pure)
theorem rdc_op_5 : rdc_Op 5 := fun _ _ _ _ _ hA _ hb he => rdc_op hA hb he (rdc_pure)
theorem rdc_op_6 : rdc_Op 6 := fun _ _ _ _ _ hA _ hb he => rdc_op hA hb he (rdc_pure)
theorem rdc_op_7 : rdc_Op 7 := fun _ _ _ _ _ hA _ hb he => rdc_op hA hb he (rdc_pure)
theorem rdc_op_8 : rdc_Op 8 := fun _ _ _ _ _ hA _ hb he => rdc_op hA hb he (rdc_pure)
theorem rdc_op_9 : rdc_Op 9 := fun _ _ _ _ _ hA _ hb he => rdc_op hA hb he (rdc_pure)
theorem rdc_op_10 : rdc_Op 10 := fun _ _ _ _ _ hA _ hb he => rdc_op hA hb he (rdc_pure)
theorem rdc_op_16 : rdc_Op 16 := fun _ _ _ _ _ hA _ hb he => rdc_op hA hb he (rdc_bind (rdc_s1 hA) fun _ => rdc_pure)
theorem rdc_op_17 : rdc_Op 17 := fun _ _ _ _ _ hA _ hb he => rdc_op hA hb he (rdc_bind (rdc_s2 hA) fun _ => rdc_pure)
theorem rdc_op_18 : rdc_Op 18 := fun _ _ _ _ _ hA _ hb he => rdc_op hA hb he (rdc_bind (rdc_u1 hA) fun _ => rdc_pure)
theorem rdc_op_19 : rdc_Op 19 := fun _ _ _ _ _ hA _ hb he => rdc_op hA hb he (rdc_bind (rdc_u2 hA) fun _ => rdc_pure)
theorem rdc_op_20 : rdc_Op 20 := fun _ _ _ _ _ hA _ hb he => rdc_op hA hb he (rdc_bind (rdc_u2 hA) fun _ => rdc_pure)
theorem rdc_op_21 : rdc_Op 21 := fun _ _ _ _ _ hA _ hb he => rdc_op hA hb he (rdc_bind (rdc_u1 hA) fun _ => rdc_pure)
theorem rdc_op_22 : rdc_Op 22 := fun _ _ _ _ _ hA _ hb he => rdc_op hA hb he (rdc_bind (rdc_u1 hA) fun _ => rdc_pure)
theorem rdc_op_25 : rdc_Op 25 := fun _ _ _ _ _ hA _ hb he => rdc_op hA hb he (rdc_bind (rdc_u1 hA) fun _ => rdc_pure)
theorem rdc_op_26 : rdc_Op 26 := fun _ _ _ _ _ hA _ hb he => rdc_op hA hb he (rdc_pure)
theorem rdc_op_27 : rdc_Op 27 := fun _ _ _ _ _ hA _ hb he => rdc_op hA hb he (rdc_pure)
theorem rdc_op_28 : rdc_Op 28 := fun _ _ _ _ _ hA _ hb he => rdc_op hA hb he (rdc_pure)
theorem rdc_op_29 : rdc_Op 29 := fun _ _ _ _ _ hA _ hb he => rdc_op hA hb he (rdc_pure)
theorem rdc_op_30 : rdc_Op 30 := fun _ _ _ _ _ hA _ hb he => rdc_op hA hb he (rdc_pure)
theorem rdc_op_31 : rdc_Op 31 := fun _ _ _ _ _ hA _ hb he => rdc_op hA hb he (rdc_pure)
theorem rdc_op_32 : rdc_Op 32 := fun _ _ _ _ _ hA _ hb he => rdc_op hA hb he (rdc_pure)
theorem rdc_op_33 : rdc_Op 33 := fun _ _ _ _ _ hA _ hb he => rdc_op hA hb he (rdc_pure)
theorem rdc_op_34 : rdc_Op 34 := fun _ _ _ _ _ hA _ hb he => rdc_op hA hb he (rdc_pure)
theorem rdc_op_35 : rdc_Op 35 := fun _ _ _ _ _ hA _ hb he => rdc_op hA hb he (rdc_pure)
theorem rdc_op_42 : rdc_Op 42 := fun _ _ _ _ _ hA _ hb he => rdc_op hA hb he (rdc_pure)
theorem rdc_op_43 : rdc_Op 43 := fun _ _ _ _ _ hA _ hb he => rdc_op hA hb he (rdc_pure)
theorem rdc_op_44 : rdc_Op 44 := fun _ _ _ _ _ hA _ hb he => rdc_op hA hb he (rdc_pure)
theorem rdc_op_45 : rdc_Op 45 := fun _ _ _ _ _ hA _ hb he => rdc_op hA hb he (rdc_pure)
theorem rdc_op_46 : rdc_Op 46 := fun _ _ _ _ _ hA _ hb he => rdc_op hA hb he (rdc_pure)
theorem rdc_op_47 : rdc_Op 47 := fun _ _ _ _ _ hA _ hb he => rdc_op hA hb he (rdc_pure)
theorem rdc_op_50 : rdc_Op 50 := fun _ _ _ _ _ hA _ hb he => rdc_op hA hb he (rdc_pure)
theorem rdc_op_51 : rdc_Op 51 := fun _ _ _ _ _ hA _ hb he => rdc_op hA hb he (rdc_pure)
theorem rdc_op_54 : rdc_Op 54 := fun _ _ _ _ _ hA _ hb he => rdc_op hA hb he (rdc_bind (rdc_u1 hA) fun _ => rdc_pure)
theorem rdc_op_55 : rdc_Op 55 := fun _ _ _ _ _ hA _ hb he => rdc_op hA hb he (rdc_bind (rdc_u1 hA) fun _ => rdc_pure)
theorem rdc_op_58 : rdc_Op 58 := fun _ _ _ _ _ hA _ hb he => rdc_op hA hb he (rdc_bind (rdc_u1 hA) fun _ => rdc_pure)
theorem rdc_op_59 : rdc_Op 59 := fun _ _ _ _ _ hA _ hb he => rdc_op hA hb he (rdc_pure)
theorem rdc_op_60 : rdc_Op 60 := fun _ _ _ _ _ hA _ hb he => rdc_op hA hb he (rdc_pure)
theorem rdc_op_61 : rdc_Op 61 := fun _ _ _ _ _ hA _ hb he => rdc_op hA hb he (rdc_pure)
theorem rdc_op_62 : rdc_Op 62 := fun _ _ _ _ _ hA _ hb he => rdc_op hA hb he (rdc_pure)
theorem rdc_op_63 : rdc_Op 63 := fun _ _ _ _ _ hA _ hb he => rdc_op hA hb he (rdc_pure)
theorem rdc_op_64 : rdc_Op 64 := fun _ _ _ _ _ hA _ hb he => rdc_op hA hb he (rdc_pure)
theorem rdc_op_65 : rdc_Op 65 := fun _ _ _ _ _ hA _ hb he => rdc_op hA hb he (rdc_pure)
theorem rdc_op_66 : rdc_Op 66 := fun _ _ _ _ _ hA _ hb he => rdc_op hA hb he (rdc_pure)
theorem rdc_op_67 : rdc_Op 67 := fun _ _ _ _ _ hA _ hb he => rdc_op hA hb he (rdc_pure)
theorem rdc_op_68 : rdc_Op 68 := fun _ _ _ _ _ hA _ hb he => rdc_op hA hb he (rdc_pure)
theorem rdc_op_69 : rdc_Op 69 := fun _ _ _ _ _ hA _ hb he => rdc_op hA hb he (rdc_pure)
theorem rdc_op_70 : rdc_Op 70 := fun _ _ _ _ _ hA _ hb he => rdc_op hA hb he (rdc_pure)
theorem rdc_op_71 : rdc_Op 71 := fun _ _ _ _ _ hA _ hb he => rdc_op hA hb he (rdc_pure)
theorem rdc_op_72 : rdc_Op 72 := fun _ _ _ _ _ hA _ hb he => rdc_op hA hb he (rdc_pure)
theorem rdc_op_73 : rdc_Op 73 := fun _ _ _ _ _ hA _ hb he => rdc_op hA hb he (rdc_pure)
theorem rdc_op_74 : rdc_Op 74 := fun _ _ _ _ _ hA _ hb he => rdc_op hA hb he (rdc_pure)
theorem rdc_op_75 : rdc_Op 75 := fun _ _ _ _ _ hA _ hb he => rdc_op hA hb he (rdc_pure)
theorem rdc_op_76 : rdc_Op 76 := fun _ _ _ _ _ hA _ hb he => rdc_op hA hb he (rdc_pure)
theorem rdc_op_77 : rdc_Op 77 := fun _ _ _ _ _ hA _ hb he => rdc_op hA hb he (rdc_pure)
theorem rdc_op_78 : rdc_Op 78 := fun _ _ _ _ _ hA _ hb he => rdc_op hA hb he (rdc_pure)
theorem rdc_op_79 : rdc_Op 79 := fun _ _ _ _ _ hA _ hb he => rdc_op hA hb he (rdc_pure)
theorem rdc_op_80 : rdc_Op 80 := fun _ _ _ _ _ hA _ hb he => rdc_op hA hb he (rdc_pure)
theorem rdc_op_83 : rdc_Op 83 := fun _ _ _ _ _ hA _ hb he => rdc_op hA hb he (rdc_pure)
theorem rdc_op_84 : rdc_Op 84 := fun _ _ _ _ _ hA _ hb he => rdc_op hA hb he (rdc_pure)
theorem rdc_op_87 : rdc_Op 87 := fun _ _ _ _ _ hA _ hb he => rdc_op hA hb he (rdc_pure)
theorem rdc_op_88 : rdc_Op 88 := fun _ _ _ _ _ hA _ hb he => rdc_op hA hb he (rdc_pure)
theorem rdc_op_89 : rdc_Op 89 := fun _ _ _ _ _ hA _ hb he => rdc_op hA hb he (rdc_pure)
theorem rdc_op_92 : rdc_Op 92 := fun _ _ _ _ _ hA _ hb he => rdc_op hA hb he (rdc_pure)
theorem rdc_op_96 : rdc_Op 96 := fun _ _ _ _ _ hA _ hb he => rdc_op hA hb he (rdc_pure)
theorem rdc_op_97 : rdc_Op 97 := fun _ _ _ _ _ hA _ hb he => rdc_op hA hb he (rdc_pure)
theorem rdc_op_100 : rdc_Op 100 := fun _ _ _ _ _ hA _ hb he => rdc_op hA hb he (rdc_pure)
theorem rdc_op_101 : rdc_Op 101 := fun _ _ _ _ _ hA _ hb he => rdc_op hA hb he (rdc_pure)
theorem rdc_op_104 : rdc_Op 104 := fun _ _ _ _ _ hA _ hb he => rdc_op hA hb he (rdc_pure)
theorem rdc_op_105 : rdc_Op 105 := fun _ _ _ _ _ hA _ hb he => rdc_op hA hb he (rdc_pure)
theorem rdc_op_108 : rdc_Op 108 := fun _ _ _ _ _ hA _ hb he => rdc_op hA hb he (rdc_pure)
theorem rdc_op_112 : rdc_Op 112 := fun _ _ _ _ _ hA _ hb he => rdc_op hA hb he (rdc_pure)
theorem rdc_op_117 : rdc_Op 117 := fun _ _ _ _ _ hA _ hb he => rdc_op hA hb he (rdc_pure)
theorem rdc_op_120 : rdc_Op 120 := fun _ _ _ _ _ hA _ hb he => rdc_op hA hb he (rdc_pure)
theorem rdc_op_121 : rdc_Op 121 := fun _ _ _ _ _ hA _ hb he => rdc_op hA hb he (rdc_pure)
theorem rdc_op_122 : rdc_Op 122 := fun _ _ _ _ _ hA _ hb he => rdc_op hA hb he (rdc_pure)
theorem rdc_op_123 : rdc_Op 123 := fun _ _ _ _ _ hA _ hb he => rdc_op hA hb he (rdc_pure)
theorem rdc_op_124 : rdc_Op 124 := fun _ _ _ _ _ hA _ hb he => rdc_op hA hb he (rdc_pure)
theorem rdc_op_125 : rdc_Op 125 := fun _ _ _ _ _ hA _ hb he => rdc_op hA hb he (rdc_pure)
theorem rdc_op_126 : rdc_Op 126 := fun _ _ _ _ _ hA _ hb he => rdc_op hA hb he (rdc_pure)
theorem rdc_op_127 : rdc_Op 127 := fun _ _ _ _ _ hA _ hb he => rdc_op hA hb he (rdc_pure)
theorem rdc_op_128 : rdc_Op 128 := fun _ _ _ _ _ hA _ hb he => rdc_op hA hb he (rdc_pure)
theorem rdc_op_129 : rdc_Op 129 := fun _ _ _ _ _ hA _ hb he => rdc_op hA hb he (rdc_pure)
theorem rdc_op_130 : rdc_Op 130 := fun _ _ _ _ _ hA _ hb he => rdc_op hA hb he (rdc_pure)
theorem rdc_op_131 : rdc_Op 131 := fun _ _ _ _ _ hA _ hb he => rdc_op hA hb he (rdc_pure)
theorem rdc_op_132 : rdc_Op 132 := fun _ _ _ _ _ hA _ hb he => rdc_op hA hb he (rdc_bind (rdc_u1 hA) fun _ => rdc_bind (rdc_s1 hA) fun _ => rdc_pure)
theorem rdc_op_133 : rdc_Op 133 := fun _ _ _ _ _ hA _ hb he => rdc_op hA hb he (rdc_pure)
theorem rdc_op_136 : rdc_Op 136 := fun _ _ _ _ _ hA _ hb he => rdc_op hA hb he (rdc_pure)
theorem rdc_op_145 : rdc_Op 145 := fun _ _ _ _ _ hA _ hb he => rdc_op hA hb he (rdc_pure)
theorem rdc_op_146 : rdc_Op 146 := fun _ _ _ _ _ hA _ hb he => rdc_op hA hb he (rdc_pure)
theorem rdc_op_147 : rdc_Op 147 := fun _ _ _ _ _ hA _ hb he => rdc_op hA hb he (rdc_pure)
theorem rdc_op_148 : rdc_Op 148 := fun _ _ _ _ _ hA _ hb he => rdc_op hA hb he (rdc_pure)
theorem rdc_op_153 : rdc_Op 153 := fun _ _ _ _ _ hA _ hb he => rdc_op hA hb he (rdc_bind (rdc_s2 hA) fun _ => rdc_pure)
theorem rdc_op_154 : rdc_Op 154 := fun _ _ _ _ _ hA _ hb he => rdc_op hA hb he (rdc_bind (rdc_s2 hA) fun _ => rdc_pure)
theorem rdc_op_155 : rdc_Op 155 := fun _ _ _ _ _ hA _ hb he => rdc_op hA hb he (rdc_bind (rdc_s2 hA) fun _ => rdc_pure)
theorem rdc_op_156 : rdc_Op 156 := fun _ _ _ _ _ hA _ hb he => rdc_op hA hb he (rdc_bind (rdc_s2 hA) fun _ => rdc_pure)
theorem rdc_op_157 : rdc_Op 157 := fun _ _ _ _ _ hA _ hb he => rdc_op hA hb he (rdc_bind (rdc_s2 hA) fun _ => rdc_pure)
theorem rdc_op_158 : rdc_Op 158 := fun _ _ _ _ _ hA _ hb he => rdc_op hA hb he (rdc_bind (rdc_s2 hA) fun _ => rdc_pure)
theorem rdc_op_159 : rdc_Op 159 := fun _ _ _ _ _ hA _ hb he => rdc_op hA hb he (rdc_bind (rdc_s2 hA) fun _ => rdc_pure)
theorem rdc_op_160 : rdc_Op 160 := fun _ _ _ _ _ hA _ hb he => rdc_op hA hb he (rdc_bind (rdc_s2 hA) fun _ => rdc_pure)
theorem rdc_op_161 : rdc_Op 161 := fun _ _ _ _ _ hA _ hb he => rdc_op hA hb he (rdc_bind (rdc_s2 hA) fun _ => rdc_pure)
theorem rdc_op_162 : rdc_Op 162 := fun _ _ _ _ _ hA _ hb he => rdc_op hA hb he (rdc_bind (rdc_s2 hA) fun _ => rdc_pure)
theorem rdc_op_163 : rdc_Op 163 := fun _ _ _ _ _ hA _ hb he => rdc_op hA hb he (rdc_bind (rdc_s2 hA) fun _ => rdc_pure)
theorem rdc_op_164 : rdc_Op 164 := fun _ _ _ _ _ hA _ hb he => rdc_op hA hb he (rdc_bind (rdc_s2 hA) fun _ => rdc_pure)
theorem rdc_op_165 : rdc_Op 165 := fun _ _ _ _ _ hA _ hb he => rdc_op hA hb he (rdc_bind (rdc_s2 hA) fun _ => rdc_pure)
theorem rdc_op_166 : rdc_Op 166 := fun _ _ _ _ _ hA _ hb he => rdc_op hA hb he (rdc_bind (rdc_s2 hA) fun _ => rdc_pure)
theorem rdc_op_167 : rdc_Op 167 := fun _ _ _ _ _ hA _ hb he => rdc_op hA hb he (rdc_bind (rdc_s2 hA) fun _ => rdc_pure)
theorem rdc_op_172 : rdc_Op 172 := fun _ _ _ _ _ hA _ hb he => rdc_op hA hb he (rdc_pure)
theorem rdc_op_173 : rdc_Op 173 := fun _ _ _ _ _ hA _ hb he => rdc_op hA hb he (rdc_pure)
theorem rdc_op_176 : rdc_Op 176 := fun _ _ _ _ _ hA _ hb he => rdc_op hA hb he (rdc_pure)
theorem rdc_op_177 : rdc_Op 177 := fun _ _ _ _ _ hA _ hb he => rdc_op hA hb he (rdc_pure)
theorem rdc_op_178 : rdc_Op 178 := fun _ _ _ _ _ hA _ hb he => rdc_op hA hb he (rdc_bind (rdc_u2 hA) fun _ => rdc_pure)
theorem rdc_op_180 : rdc_Op 180 := fun _ _ _ _ _ hA _ hb he => rdc_op hA hb he (rdc_bind (rdc_u2 hA) fun _ => rdc_pure)
theorem rdc_op_181 : rdc_Op 181 := fun _ _ _ _ _ hA _ hb he => rdc_op hA hb he (rdc_bind (rdc_u2 hA) fun _ => rdc_pure)
theorem rdc_op_182 : rdc_Op 182 := fun _ _ _ _ _ hA _ hb he => rdc_op hA hb he (rdc_bind (rdc_u2 hA) fun _ => rdc_pure)
theorem rdc_op_183 : rdc_Op 183 := fun _ _ _ _ _ hA _ hb he => rdc_op hA hb he (rdc_bind (rdc_u2 hA) fun _ => rdc_pure)
theorem rdc_op_184 : rdc_Op 184 := fun _ _ _ _ _ hA _ hb he => rdc_op hA hb he (rdc_bind (rdc_u2 hA) fun _ => rdc_pure)
theorem rdc_op_187 : rdc_Op 187 := fun _ _ _ _ _ hA _ hb he => rdc_op hA hb he (rdc_bind (rdc_u2 hA) fun _ => rdc_pure)
theorem rdc_op_189 : rdc_Op 189 := fun _ _ _ _ _ hA _ hb he => rdc_op hA hb he (rdc_bind (rdc_u2 hA) fun _ => rdc_pure)
theorem rdc_op_190 : rdc_Op 190 := fun _ _ _ _ _ hA _ hb he => rdc_op hA hb he (rdc_pure)
theorem rdc_op_191 : rdc_Op 191 := fun _ _ _ _ _ hA _ hb he => rdc_op hA hb he (rdc_pure)
theorem rdc_op_198 : rdc_Op 198 := fun _ _ _ _ _ hA _ hb he => rdc_op hA hb he (rdc_bind (rdc_s2 hA) fun _ => rdc_pure)
theorem rdc_op_199 : rdc_Op 199 := fun _ _ _ _ _ hA _ hb he => rdc_op hA hb he (rdc_bind (rdc_s2 hA) fun _ => rdc_pure)
def rdc_l : List Nat := [1, 2, 3, 4, 5, 6, 7, 8, 9, 10, 16, 17, 18, 19, 20, 21, 22, 25, 26, 27, 28, 29, 30, 31, 32, 33, 34, 35, 42, 43, 44, 45, 46, 47, 50, 51, 54, 55, 58, 59, 60, 61, 62, 63, 64, 65, 66, 67, 68, 69, 70, 71, 72, 73, 74, 75, 76, 77, 78, 79, 80, 83, 84, 87, 88, 89, 92, 96, 97, 100, 101, 104, 105, 108, 112, 117, 120, 121, 122, 123, 124, 125, 126, 127, 128, 129, 130, 131, 132, 133, 136, 145, 146, 147, 148, 153, 154, 155, 156, 157, 158, 159, 160, 161, 162, 163, 164, 165, 166, 167, 172, 173, 176, 177, 178, 180, 181, 182, 183, 184, 187, 189, 190, 191, 198, 199]
def rdc_m : Nat := 1210940352803568647308232108063901598992142328150182066063358
theorem rdc_cons {P : Nat → Prop} {a : Nat} {l : List Nat} (h : P a) (t : ∀ x ∈ l, P x) : ∀ x ∈ a :: l, P x := List.forall_mem_cons.mpr ⟨h, t⟩
theorem rdc_lOk : ∀ x ∈ rdc_l, rdc_Op x := rdc_cons rdc_op_1 (rdc_cons rdc_op_2 (rdc_cons rdc_op_3 (rdc_cons rdc_op_4 (rdc_cons rdc_op_5 (rdc_cons rdc_op_6 (rdc_cons rdc_op_7 (rdc_cons rdc_op_8 (rdc_cons rdc_op_9 (rdc_cons rdc_op_10 (rdc_cons rdc_op_16 (rdc_cons rdc_op_17 (rdc_cons rdc_op_18 (rdc_cons rdc_op_19 (rdc_cons rdc_op_20 (rdc_cons rdc_op_21 (rdc_cons rdc_op_22 (rdc_cons rdc_op_25 (rdc_cons rdc_op_26 (rdc_cons rdc_op_27 (rdc_cons rdc_op_28 (rdc_cons rdc_op_29 (rdc_cons rdc_op_30 (rdc_cons rdc_op_31 (rdc_cons rdc_op_32 (rdc_cons rdc_op_33 (rdc_cons rdc_op_34 (rdc_cons rdc_op_35 (rdc_cons rdc_op_42 (rdc_cons rdc_op_43 (rdc_cons rdc_op_44 (rdc_cons rdc_op_45 (rdc_cons rdc_op_46 (rdc_cons rdc_op_47 (rdc_cons rdc_op_50 (rdc_cons rdc_op_51 (rdc_cons rdc_op_54 (rdc_cons rdc_op_55 (rdc_cons rdc_op_58 (rdc_cons rdc_op_59 (rdc_cons rdc_op_60 (rdc_cons rdc_op_61 (rdc_cons rdc_op_62 (rdc_cons rdc_op_63 (rdc_cons rdc_op_64 (rdc_cons rdc_op_65 (rdc_cons rdc_op_66 (rdc_cons rdc_op_67 (rdc_cons rdc_op_68 (rdc_cons rdc_op_69 (rdc_cons rdc_op_70 (rdc_cons rdc_op_71 (rdc_cons rdc_op_72 (rdc_cons rdc_op_73 (rdc_cons rdc_op_74 (rdc_cons rdc_op_75 (rdc_cons rdc_op_76 (rdc_cons rdc_op_77 (rdc_cons rdc_op_78 (rdc_cons rdc_op_79 (rdc_cons rdc_op_80 (rdc_cons rdc_op_83 (rdc_cons rdc_op_84 (rdc_cons rdc_op_87 (rdc_cons rdc_op_88 (rdc_cons rdc_op_89 (rdc_cons rdc_op_92 (rdc_cons rdc_op_96 (rdc_cons rdc_op_97 (rdc_cons rdc_op_100 (rdc_cons rdc_op_101 (rdc_cons rdc_op_104 (rdc_cons rdc_op_105 (rdc_cons rdc_op_108 (rdc_cons rdc_op_112 (rdc_cons rdc_op_117 (rdc_cons rdc_op_120 (rdc_cons rdc_op_121 (rdc_cons rdc_op_122 (rdc_cons rdc_op_123 (rdc_cons rdc_op_124 (rdc_cons rdc_op_125 (rdc_cons rdc_op_126 (rdc_cons rdc_op_127 (rdc_cons rdc_op_128 (rdc_cons rdc_op_129 (rdc_cons rdc_op_130 (rdc_cons rdc_op_131 (rdc_cons rdc_op_132 (rdc_cons rdc_op_133 (rdc_cons rdc_op_136 (rdc_cons rdc_op_145 (rdc_cons rdc_op_146 (rdc_cons rdc_op_147 (rdc_cons rdc_op_148 (rdc_cons rdc_op_153 (rdc_cons rdc_op_154 (rdc_cons rdc_op_155 (rdc_cons rdc_op_156 (rdc_cons rdc_op_157 (rdc_cons rdc_op_158 (rdc_cons rdc_op_159 (rdc_cons rdc_op_160 (rdc_cons rdc_op_161 (rdc_cons rdc_op_162 (rdc_cons rdc_op_163 (rdc_cons rdc_op_164 (rdc_cons rdc_op_165 (rdc_cons rdc_op_166 (rdc_cons rdc_op_167 (rdc_cons rdc_op_172 (rdc_cons rdc_op_173 (rdc_cons rdc_op_176 (rdc_cons rdc_op_177 (rdc_cons rdc_op_178 (rdc_cons rdc_op_180 (rdc_cons rdc_op_181 (rdc_cons rdc_op_182 (rdc_cons rdc_op_183 (rdc_cons rdc_op_184 (rdc_cons rdc_op_187 (rdc_cons rdc_op_189 (rdc_cons rdc_op_190 (rdc_cons rdc_op_191 (rdc_cons rdc_op_198 (rdc_cons rdc_op_199 (fun x h => absurd h List.not_mem_nil))))))))))))))))))))))))))))))))))))))))))))))))))))))))))))))))))))))))))))))))))))))))))))))))))))))))))))))))))))))))))))))
theorem rdc_mOk : ∀ x, x < 256 → Nat.testBit rdc_m x = true → x ∈ rdc_l := by decide +kernel
def rdc_chk (c : ByteArray) : Nat → List UInt8 → List (Nat × Instr × Nat) → Bool
  | _, _, [] => true
  | p, l, q :: T => match l.drop (q.1 - p) with
    | [] => false
    | b :: r => Nat.ble p q.1 && Nat.ble 1 q.2.2 && (if Nat.testBit rdc_m b.toNat = true then decide (decode ⟨⟨(b :: r).take q.2.2⟩⟩ 0 = .ok q.2) else decide (decode c q.1 = .ok q.2)) && rdc_chk c q.1 (b :: r) T
theorem rdc_win {c : ByteArray} {pc : Nat} {b : UInt8} {r : List UInt8} {q : Instr × Nat} (hl : c.data.toList.drop pc = b :: r) (hm : Nat.testBit rdc_m b.toNat = true) (hn : 1 ≤ q.2) (h : decode ⟨⟨(b :: r).take q.2⟩⟩ 0 = .ok q) : decode c pc = .ok q := by
  have hA : rdc_Ag c ⟨⟨(b :: r).take q.2⟩⟩ pc := fun i x hx => by
    have hx' : ((b :: r).take q.2)[i]? = some x := hx
    rw [← hl, List.getElem?_take] at hx'
    by_cases g : i < q.2
    · rw [if_pos g, List.getElem?_drop] at hx'
      exact hx'
    · rw [if_neg g] at hx'
      cases hx'
  have h' : (Reader.runAt (Decoder.instr 0) ⟨⟨(b :: r).take q.2⟩⟩ 0).bind (fun x => (.ok (x.1, x.2 - 0) : Except DecodeError (Instr × Nat))) = .ok q := h
  show (Reader.runAt (Decoder.instr pc) c pc).bind (fun x => (.ok (x.1, x.2 - pc) : Except DecodeError (Instr × Nat))) = .ok q
  cases hx : Reader.runAt (Decoder.instr 0) ⟨⟨(b :: r).take q.2⟩⟩ 0 with
  | error z =>
    rw [hx] at h'
    cases h'
  | ok x =>
    rw [hx] at h'
    have e2 : (Except.ok (x.1, x.2 - 0) : Except DecodeError (Instr × Nat)) = .ok q := h'
    injection e2 with e2
    have hb : ((b :: r).take q.2)[0]? = some b := by
      cases hq : q.2 with
      | zero =>
        rw [hq] at hn
        exact absurd hn (Nat.not_succ_le_zero 0)
      | succ k => rfl
    rw [rdc_lOk b.toNat (rdc_mOk b.toNat b.toNat_lt hm) c ⟨⟨(b :: r).take q.2⟩⟩ pc pc 0 hA b hb rfl x.1 x.2 hx]
    show (Except.ok (x.1, pc + x.2 - pc) : Except DecodeError (Instr × Nat)) = .ok q
    rw [← e2, Nat.add_sub_cancel_left, Nat.sub_zero]
theorem rdc_all {c : ByteArray} : ∀ (T : List (Nat × Instr × Nat)) (p : Nat) (l : List UInt8), l = c.data.toList.drop p → rdc_chk c p l T = true → (T.all fun q => decide (decode c q.1 = .ok q.2)) = true := by
  intro T
  induction T with
  | nil => intro _ _ _ _; rfl
  | cons q T ih =>
    intro p l hl h
    unfold rdc_chk at h
    cases hd : l.drop (q.1 - p) with
    | nil =>
      rw [hd] at h
      cases h
    | cons b r =>
      rw [hd] at h
      have h' : (Nat.ble p q.1 && Nat.ble 1 q.2.2 && (if Nat.testBit rdc_m b.toNat = true then decide (decode ⟨⟨(b :: r).take q.2.2⟩⟩ 0 = .ok q.2) else decide (decode c q.1 = .ok q.2)) && rdc_chk c q.1 (b :: r) T) = true := h
      rw [Bool.and_eq_true, Bool.and_eq_true, Bool.and_eq_true] at h'
      obtain ⟨⟨⟨h1, h0⟩, h2⟩, h3⟩ := h'
      have hp : p ≤ q.1 := Nat.le_of_ble_eq_true h1
      have hdr : c.data.toList.drop q.1 = b :: r := by
        rw [← hd, hl, List.drop_drop, Nat.add_sub_cancel' hp]
      rw [List.all_cons, Bool.and_eq_true]
      refine ⟨?_, ih q.1 (b :: r) hdr.symm h3⟩
      by_cases g : Nat.testBit rdc_m b.toNat = true
      · rw [if_pos g] at h2
        exact decide_eq_true (rdc_win hdr g (Nat.le_of_ble_eq_true h0) (of_decide_eq_true h2))
      · rw [if_neg g] at h2
        exact h2
