/-! decoding, an opcode at a time: the kernel reads few bytes, not the whole array -/
theorem rdc_u1_eq {c : ByteArray} {p : Nat} : Reader.runAt (Reader.u1 : Decoder Nat) c p = match c.data.toList[p]? with
    | some b => .ok (b.toNat, p + 1)
    | none => .error (.truncated p) := by
  show (dite (p < c.size) (fun h => (do set (p + 1); pure (c[p]'h).toNat : Decoder Nat)) (fun _ => throw (.truncated p))) c p = _
  by_cases h : p < c.size
  · have e : c.data.toList[p]? = some (c[p]'h) := by
      rw [Array.getElem?_toList, Array.getElem?_eq_getElem h]
      rfl
    rw [dif_pos h, e]
    rfl
  · have e : c.data.toList[p]? = none := by
      rw [Array.getElem?_toList]
      exact Array.getElem?_eq_none (Nat.le_of_not_lt h)
    rw [dif_neg h, e]
    rfl
theorem rdc_u1_some {c : ByteArray} {p : Nat} {b : UInt8} (h : c.data.toList[p]? = some b) : Reader.runAt (Reader.u1 : Decoder Nat) c p = .ok (b.toNat, p + 1) := by
  rw [rdc_u1_eq, h]
theorem rdc_b {α β : Type} {c : ByteArray} {p q : Nat} {r : Decoder α} {f : α → Decoder β} {a : α} (h : Reader.runAt r c p = .ok (a, q)) : Reader.runAt (r >>= f) c p = Reader.runAt (f a) c q := by
  show (Reader.runAt r c p).bind (fun x => Reader.runAt (f x.1) c x.2) = _
  rw [h]
  rfl
theorem rdc_mp {α β : Type} {c : ByteArray} {p q : Nat} {r : Decoder α} {f : α → β} {a : α} (h : Reader.runAt r c p = .ok (a, q)) : Reader.runAt (f <$> r) c p = .ok (f a, q) := by
  show (Reader.runAt r c p).bind (fun x => (.ok (f x.1, x.2) : Except DecodeError (β × Nat))) = _
  rw [h]
  rfl
theorem rdc_u2_some {c : ByteArray} {p : Nat} {b1 b2 : UInt8} (h1 : c.data.toList[p]? = some b1) (h2 : c.data.toList[p + 1]? = some b2) : Reader.runAt (Reader.u2 : Decoder Nat) c p = .ok (b1.toNat * 256 + b2.toNat, p + 2) := by
  refine (rdc_b (r := Reader.u1) (rdc_u1_some h1)).trans ?_
  refine (rdc_b (r := Reader.u1) (rdc_u1_some h2)).trans ?_
  rfl
theorem run0 {c : ByteArray} {s : Nat} {f : Nat → Decoder Instr} {b : UInt8} {op : Nat} {i : Instr} (hb : c.data.toList[s]? = some b) (he : b.toNat = op) (hf : f op = (Pure.pure i : Decoder Instr)) : Reader.runAt (Reader.u1 >>= f) c s = .ok (i, s + 1) := by
  rw [rdc_b (rdc_u1_some hb), he, hf]
  rfl
theorem run1 {c : ByteArray} {s : Nat} {f : Nat → Decoder Instr} {b b1 : UInt8} {op : Nat} {g : Nat → Instr} (hb : c.data.toList[s]? = some b) (he : b.toNat = op) (hf : f op = (Reader.u1 >>= fun a => Pure.pure (g a))) (h1 : c.data.toList[s + 1]? = some b1) : Reader.runAt (Reader.u1 >>= f) c s = .ok (g b1.toNat, s + 2) := by
  rw [rdc_b (rdc_u1_some hb), he, hf, rdc_b (rdc_u1_some h1)]
  rfl
theorem run1s {c : ByteArray} {s : Nat} {f : Nat → Decoder Instr} {b b1 : UInt8} {op : Nat} {g : Int → Instr} (hb : c.data.toList[s]? = some b) (he : b.toNat = op) (hf : f op = (Reader.s1 >>= fun a => Pure.pure (g a))) (h1 : c.data.toList[s + 1]? = some b1) : Reader.runAt (Reader.u1 >>= f) c s = .ok (g (Reader.signed 8 b1.toNat), s + 2) := by
  rw [rdc_b (rdc_u1_some hb), he, hf, rdc_b (r := Reader.s1) (rdc_mp (rdc_u1_some h1))]
  rfl
theorem run2 {c : ByteArray} {s : Nat} {f : Nat → Decoder Instr} {b b1 b2 : UInt8} {op : Nat} {g : Nat → Instr} (hb : c.data.toList[s]? = some b) (he : b.toNat = op) (hf : f op = (Reader.u2 >>= fun a => Pure.pure (g a))) (h1 : c.data.toList[s + 1]? = some b1) (h2 : c.data.toList[s + 2]? = some b2) : Reader.runAt (Reader.u1 >>= f) c s = .ok (g (b1.toNat * 256 + b2.toNat), s + 3) := by
  rw [rdc_b (rdc_u1_some hb), he, hf, rdc_b (rdc_u2_some h1 h2)]
  rfl
theorem run2s {c : ByteArray} {s : Nat} {f : Nat → Decoder Instr} {b b1 b2 : UInt8} {op : Nat} {g : Int → Instr} (hb : c.data.toList[s]? = some b) (he : b.toNat = op) (hf : f op = (Reader.s2 >>= fun a => Pure.pure (g a))) (h1 : c.data.toList[s + 1]? = some b1) (h2 : c.data.toList[s + 2]? = some b2) : Reader.runAt (Reader.u1 >>= f) c s = .ok (g (Reader.signed 16 (b1.toNat * 256 + b2.toNat)), s + 3) := by
  rw [rdc_b (rdc_u1_some hb), he, hf, rdc_b (r := Reader.s2) (rdc_mp (rdc_u2_some h1 h2))]
  rfl
theorem run3 {c : ByteArray} {s : Nat} {f : Nat → Decoder Instr} {b b1 b2 : UInt8} {op : Nat} {g : Nat → Int → Instr} (hb : c.data.toList[s]? = some b) (he : b.toNat = op) (hf : f op = (Reader.u1 >>= fun a => Reader.s1 >>= fun d => Pure.pure (g a d))) (h1 : c.data.toList[s + 1]? = some b1) (h2 : c.data.toList[s + 2]? = some b2) : Reader.runAt (Reader.u1 >>= f) c s = .ok (g b1.toNat (Reader.signed 8 b2.toNat), s + 3) := by
  rw [rdc_b (rdc_u1_some hb), he, hf, rdc_b (rdc_u1_some h1), rdc_b (r := Reader.s1) (rdc_mp (rdc_u1_some h2))]
  rfl
/-- by the opcode: how many bytes follow, and how they are read -/
def rdc_T (n : Nat) : Nat × (Nat → Nat → Instr) := (if Nat.blt n 97 = true then (if Nat.blt n 45 = true then (if Nat.blt n 20 = true then (if Nat.blt n 8 = true then (if Nat.blt n 4 = true then (if Nat.blt n 2 = true then (if Nat.beq n 1 = true then (0, fun _ _ => .aconst_null) else (9, fun _ _ => .nop)) else (if Nat.blt n 3 = true then (if Nat.beq n 2 = true then (0, fun _ _ => .iconst (-1)) else (9, fun _ _ => .nop)) else (if Nat.beq n 3 = true then (0, fun _ _ => .iconst 0) else (9, fun _ _ => .nop)))) else (if Nat.blt n 6 = true then (if Nat.blt n 5 = true then (if Nat.beq n 4 = true then (0, fun _ _ => .iconst 1) else (9, fun _ _ => .nop)) else (if Nat.beq n 5 = true then (0, fun _ _ => .iconst 2) else (9, fun _ _ => .nop))) else (if Nat.blt n 7 = true then (if Nat.beq n 6 = true then (0, fun _ _ => .iconst 3) else (9, fun _ _ => .nop)) else (if Nat.beq n 7 = true then (0, fun _ _ => .iconst 4) else (9, fun _ _ => .nop))))) else (if Nat.blt n 16 = true then (if Nat.blt n 9 = true then (if Nat.beq n 8 = true then (0, fun _ _ => .iconst 5) else (9, fun _ _ => .nop)) else (if Nat.blt n 10 = true then (if Nat.beq n 9 = true then (0, fun _ _ => .lconst 0) else (9, fun _ _ => .nop)) else (if Nat.beq n 10 = true then (0, fun _ _ => .lconst 1) else (9, fun _ _ => .nop)))) else (if Nat.blt n 18 = true then (if Nat.blt n 17 = true then (if Nat.beq n 16 = true then (1, fun a _ => .bipush (Reader.signed 8 a)) else (9, fun _ _ => .nop)) else (if Nat.beq n 17 = true then (2, fun a _ => .sipush (Reader.signed 16 a)) else (9, fun _ _ => .nop))) else (if Nat.blt n 19 = true then (if Nat.beq n 18 = true then (1, fun a _ => .ldc a) else (9, fun _ _ => .nop)) else (if Nat.beq n 19 = true then (2, fun a _ => .ldc_w a) else (9, fun _ _ => .nop)))))) else (if Nat.blt n 29 = true then (if Nat.blt n 25 = true then (if Nat.blt n 21 = true then (if Nat.beq n 20 = true then (2, fun a _ => .ldc2_w a) else (9, fun _ _ => .nop)) else (if Nat.blt n 22 = true then (if Nat.beq n 21 = true then (1, fun a _ => .iload a) else (9, fun _ _ => .nop)) else (if Nat.beq n 22 = true then (1, fun a _ => .lload a) else (9, fun _ _ => .nop)))) else (if Nat.blt n 27 = true then (if Nat.blt n 26 = true then (if Nat.beq n 25 = true then (1, fun a _ => .aload a) else (9, fun _ _ => .nop)) else (if Nat.beq n 26 = true then (0, fun _ _ => .iload_n 0) else (9, fun _ _ => .nop))) else (if Nat.blt n 28 = true then (if Nat.beq n 27 = true then (0, fun _ _ => .iload_n 1) else (9, fun _ _ => .nop)) else (if Nat.beq n 28 = true then (0, fun _ _ => .iload_n 2) else (9, fun _ _ => .nop))))) else (if Nat.blt n 33 = true then (if Nat.blt n 31 = true then (if Nat.blt n 30 = true then (if Nat.beq n 29 = true then (0, fun _ _ => .iload_n 3) else (9, fun _ _ => .nop)) else (if Nat.beq n 30 = true then (0, fun _ _ => .lload_n 0) else (9, fun _ _ => .nop))) else (if Nat.blt n 32 = true then (if Nat.beq n 31 = true then (0, fun _ _ => .lload_n 1) else (9, fun _ _ => .nop)) else (if Nat.beq n 32 = true then (0, fun _ _ => .lload_n 2) else (9, fun _ _ => .nop)))) else (if Nat.blt n 43 = true then (if Nat.blt n 42 = true then (if Nat.beq n 33 = true then (0, fun _ _ => .lload_n 3) else (9, fun _ _ => .nop)) else (if Nat.beq n 42 = true then (0, fun _ _ => .aload_n 0) else (9, fun _ _ => .nop))) else (if Nat.blt n 44 = true then (if Nat.beq n 43 = true then (0, fun _ _ => .aload_n 1) else (9, fun _ _ => .nop)) else (if Nat.beq n 44 = true then (0, fun _ _ => .aload_n 2) else (9, fun _ _ => .nop))))))) else (if Nat.blt n 65 = true then (if Nat.blt n 58 = true then (if Nat.blt n 50 = true then (if Nat.blt n 46 = true then (if Nat.beq n 45 = true then (0, fun _ _ => .aload_n 3) else (9, fun _ _ => .nop)) else (if Nat.blt n 47 = true then (if Nat.beq n 46 = true then (0, fun _ _ => .iaload) else (9, fun _ _ => .nop)) else (if Nat.beq n 47 = true then (0, fun _ _ => .laload) else (9, fun _ _ => .nop)))) else (if Nat.blt n 54 = true then (if Nat.blt n 51 = true then (if Nat.beq n 50 = true then (0, fun _ _ => .aaload) else (9, fun _ _ => .nop)) else (if Nat.beq n 51 = true then (0, fun _ _ => .baload) else (9, fun _ _ => .nop))) else (if Nat.blt n 55 = true then (if Nat.beq n 54 = true then (1, fun a _ => .istore a) else (9, fun _ _ => .nop)) else (if Nat.beq n 55 = true then (1, fun a _ => .lstore a) else (9, fun _ _ => .nop))))) else (if Nat.blt n 61 = true then (if Nat.blt n 59 = true then (if Nat.beq n 58 = true then (1, fun a _ => .astore a) else (9, fun _ _ => .nop)) else (if Nat.blt n 60 = true then (if Nat.beq n 59 = true then (0, fun _ _ => .istore_n 0) else (9, fun _ _ => .nop)) else (if Nat.beq n 60 = true then (0, fun _ _ => .istore_n 1) else (9, fun _ _ => .nop)))) else (if Nat.blt n 63 = true then (if Nat.blt n 62 = true then (if Nat.beq n 61 = true then (0, fun _ _ => .istore_n 2) else (9, fun _ _ => .nop)) else (if Nat.beq n 62 = true then (0, fun _ _ => .istore_n 3) else (9, fun _ _ => .nop))) else (if Nat.blt n 64 = true then (if Nat.beq n 63 = true then (0, fun _ _ => .lstore_n 0) else (9, fun _ _ => .nop)) else (if Nat.beq n 64 = true then (0, fun _ _ => .lstore_n 1) else (9, fun _ _ => .nop)))))) else (if Nat.blt n 80 = true then (if Nat.blt n 76 = true then (if Nat.blt n 66 = true then (if Nat.beq n 65 = true then (0, fun _ _ => .lstore_n 2) else (9, fun _ _ => .nop)) else (if Nat.blt n 75 = true then (if Nat.beq n 66 = true then (0, fun _ _ => .lstore_n 3) else (9, fun _ _ => .nop)) else (if Nat.beq n 75 = true then (0, fun _ _ => .astore_n 0) else (9, fun _ _ => .nop)))) else (if Nat.blt n 78 = true then (if Nat.blt n 77 = true then (if Nat.beq n 76 = true then (0, fun _ _ => .astore_n 1) else (9, fun _ _ => .nop)) else (if Nat.beq n 77 = true then (0, fun _ _ => .astore_n 2) else (9, fun _ _ => .nop))) else (if Nat.blt n 79 = true then (if Nat.beq n 78 = true then (0, fun _ _ => .astore_n 3) else (9, fun _ _ => .nop)) else (if Nat.beq n 79 = true then (0, fun _ _ => .iastore) else (9, fun _ _ => .nop))))) else (if Nat.blt n 88 = true then (if Nat.blt n 84 = true then (if Nat.blt n 83 = true then (if Nat.beq n 80 = true then (0, fun _ _ => .lastore) else (9, fun _ _ => .nop)) else (if Nat.beq n 83 = true then (0, fun _ _ => .aastore) else (9, fun _ _ => .nop))) else (if Nat.blt n 87 = true then (if Nat.beq n 84 = true then (0, fun _ _ => .bastore) else (9, fun _ _ => .nop)) else (if Nat.beq n 87 = true then (0, fun _ _ => .pop) else (9, fun _ _ => .nop)))) else (if Nat.blt n 92 = true then (if Nat.blt n 89 = true then (if Nat.beq n 88 = true then (0, fun _ _ => .pop2) else (9, fun _ _ => .nop)) else (if Nat.beq n 89 = true then (0, fun _ _ => .dup) else (9, fun _ _ => .nop))) else (if Nat.blt n 96 = true then (if Nat.beq n 92 = true then (0, fun _ _ => .dup2) else (9, fun _ _ => .nop)) else (if Nat.beq n 96 = true then (0, fun _ _ => .iadd) else (9, fun _ _ => .nop)))))))) else (if Nat.blt n 155 = true then (if Nat.blt n 126 = true then (if Nat.blt n 117 = true then (if Nat.blt n 104 = true then (if Nat.blt n 100 = true then (if Nat.beq n 97 = true then (0, fun _ _ => .ladd) else (9, fun _ _ => .nop)) else (if Nat.blt n 101 = true then (if Nat.beq n 100 = true then (0, fun _ _ => .isub) else (9, fun _ _ => .nop)) else (if Nat.beq n 101 = true then (0, fun _ _ => .lsub) else (9, fun _ _ => .nop)))) else (if Nat.blt n 108 = true then (if Nat.blt n 105 = true then (if Nat.beq n 104 = true then (0, fun _ _ => .imul) else (9, fun _ _ => .nop)) else (if Nat.beq n 105 = true then (0, fun _ _ => .lmul) else (9, fun _ _ => .nop))) else (if Nat.blt n 112 = true then (if Nat.beq n 108 = true then (0, fun _ _ => .idiv) else (9, fun _ _ => .nop)) else (if Nat.beq n 112 = true then (0, fun _ _ => .irem) else (9, fun _ _ => .nop))))) else (if Nat.blt n 122 = true then (if Nat.blt n 120 = true then (if Nat.beq n 117 = true then (0, fun _ _ => .lneg) else (9, fun _ _ => .nop)) else (if Nat.blt n 121 = true then (if Nat.beq n 120 = true then (0, fun _ _ => .ishl) else (9, fun _ _ => .nop)) else (if Nat.beq n 121 = true then (0, fun _ _ => .lshl) else (9, fun _ _ => .nop)))) else (if Nat.blt n 124 = true then (if Nat.blt n 123 = true then (if Nat.beq n 122 = true then (0, fun _ _ => .ishr) else (9, fun _ _ => .nop)) else (if Nat.beq n 123 = true then (0, fun _ _ => .lshr) else (9, fun _ _ => .nop))) else (if Nat.blt n 125 = true then (if Nat.beq n 124 = true then (0, fun _ _ => .iushr) else (9, fun _ _ => .nop)) else (if Nat.beq n 125 = true then (0, fun _ _ => .lushr) else (9, fun _ _ => .nop)))))) else (if Nat.blt n 133 = true then (if Nat.blt n 129 = true then (if Nat.blt n 127 = true then (if Nat.beq n 126 = true then (0, fun _ _ => .iand) else (9, fun _ _ => .nop)) else (if Nat.blt n 128 = true then (if Nat.beq n 127 = true then (0, fun _ _ => .land) else (9, fun _ _ => .nop)) else (if Nat.beq n 128 = true then (0, fun _ _ => .ior) else (9, fun _ _ => .nop)))) else (if Nat.blt n 131 = true then (if Nat.blt n 130 = true then (if Nat.beq n 129 = true then (0, fun _ _ => .lor) else (9, fun _ _ => .nop)) else (if Nat.beq n 130 = true then (0, fun _ _ => .ixor) else (9, fun _ _ => .nop))) else (if Nat.blt n 132 = true then (if Nat.beq n 131 = true then (0, fun _ _ => .lxor) else (9, fun _ _ => .nop)) else (if Nat.beq n 132 = true then (3, fun a b => .iinc a (Reader.signed 8 b)) else (9, fun _ _ => .nop))))) else (if Nat.blt n 147 = true then (if Nat.blt n 145 = true then (if Nat.blt n 136 = true then (if Nat.beq n 133 = true then (0, fun _ _ => .i2l) else (9, fun _ _ => .nop)) else (if Nat.beq n 136 = true then (0, fun _ _ => .l2i) else (9, fun _ _ => .nop))) else (if Nat.blt n 146 = true then (if Nat.beq n 145 = true then (0, fun _ _ => .i2b) else (9, fun _ _ => .nop)) else (if Nat.beq n 146 = true then (0, fun _ _ => .i2c) else (9, fun _ _ => .nop)))) else (if Nat.blt n 153 = true then (if Nat.blt n 148 = true then (if Nat.beq n 147 = true then (0, fun _ _ => .i2s) else (9, fun _ _ => .nop)) else (if Nat.beq n 148 = true then (0, fun _ _ => .lcmp) else (9, fun _ _ => .nop))) else (if Nat.blt n 154 = true then (if Nat.beq n 153 = true then (2, fun a _ => .ifCond .eq (Reader.signed 16 a)) else (9, fun _ _ => .nop)) else (if Nat.beq n 154 = true then (2, fun a _ => .ifCond .ne (Reader.signed 16 a)) else (9, fun _ _ => .nop))))))) else (if Nat.blt n 173 = true then (if Nat.blt n 162 = true then (if Nat.blt n 158 = true then (if Nat.blt n 156 = true then (if Nat.beq n 155 = true then (2, fun a _ => .ifCond .lt (Reader.signed 16 a)) else (9, fun _ _ => .nop)) else (if Nat.blt n 157 = true then (if Nat.beq n 156 = true then (2, fun a _ => .ifCond .ge (Reader.signed 16 a)) else (9, fun _ _ => .nop)) else (if Nat.beq n 157 = true then (2, fun a _ => .ifCond .gt (Reader.signed 16 a)) else (9, fun _ _ => .nop)))) else (if Nat.blt n 160 = true then (if Nat.blt n 159 = true then (if Nat.beq n 158 = true then (2, fun a _ => .ifCond .le (Reader.signed 16 a)) else (9, fun _ _ => .nop)) else (if Nat.beq n 159 = true then (2, fun a _ => .if_icmp .eq (Reader.signed 16 a)) else (9, fun _ _ => .nop))) else (if Nat.blt n 161 = true then (if Nat.beq n 160 = true then (2, fun a _ => .if_icmp .ne (Reader.signed 16 a)) else (9, fun _ _ => .nop)) else (if Nat.beq n 161 = true then (2, fun a _ => .if_icmp .lt (Reader.signed 16 a)) else (9, fun _ _ => .nop))))) else (if Nat.blt n 165 = true then (if Nat.blt n 163 = true then (if Nat.beq n 162 = true then (2, fun a _ => .if_icmp .ge (Reader.signed 16 a)) else (9, fun _ _ => .nop)) else (if Nat.blt n 164 = true then (if Nat.beq n 163 = true then (2, fun a _ => .if_icmp .gt (Reader.signed 16 a)) else (9, fun _ _ => .nop)) else (if Nat.beq n 164 = true then (2, fun a _ => .if_icmp .le (Reader.signed 16 a)) else (9, fun _ _ => .nop)))) else (if Nat.blt n 167 = true then (if Nat.blt n 166 = true then (if Nat.beq n 165 = true then (2, fun a _ => .if_acmp .eq (Reader.signed 16 a)) else (9, fun _ _ => .nop)) else (if Nat.beq n 166 = true then (2, fun a _ => .if_acmp .ne (Reader.signed 16 a)) else (9, fun _ _ => .nop))) else (if Nat.blt n 172 = true then (if Nat.beq n 167 = true then (2, fun a _ => .goto (Reader.signed 16 a)) else (9, fun _ _ => .nop)) else (if Nat.beq n 172 = true then (0, fun _ _ => .ireturn) else (9, fun _ _ => .nop)))))) else (if Nat.blt n 183 = true then (if Nat.blt n 178 = true then (if Nat.blt n 176 = true then (if Nat.beq n 173 = true then (0, fun _ _ => .lreturn) else (9, fun _ _ => .nop)) else (if Nat.blt n 177 = true then (if Nat.beq n 176 = true then (0, fun _ _ => .areturn) else (9, fun _ _ => .nop)) else (if Nat.beq n 177 = true then (0, fun _ _ => .return_) else (9, fun _ _ => .nop)))) else (if Nat.blt n 181 = true then (if Nat.blt n 180 = true then (if Nat.beq n 178 = true then (2, fun a _ => .getstatic a) else (9, fun _ _ => .nop)) else (if Nat.beq n 180 = true then (2, fun a _ => .getfield a) else (9, fun _ _ => .nop))) else (if Nat.blt n 182 = true then (if Nat.beq n 181 = true then (2, fun a _ => .putfield a) else (9, fun _ _ => .nop)) else (if Nat.beq n 182 = true then (2, fun a _ => .invokevirtual a) else (9, fun _ _ => .nop))))) else (if Nat.blt n 190 = true then (if Nat.blt n 187 = true then (if Nat.blt n 184 = true then (if Nat.beq n 183 = true then (2, fun a _ => .invokespecial a) else (9, fun _ _ => .nop)) else (if Nat.beq n 184 = true then (2, fun a _ => .invokestatic a) else (9, fun _ _ => .nop))) else (if Nat.blt n 189 = true then (if Nat.beq n 187 = true then (2, fun a _ => .new a) else (9, fun _ _ => .nop)) else (if Nat.beq n 189 = true then (2, fun a _ => .anewarray a) else (9, fun _ _ => .nop)))) else (if Nat.blt n 198 = true then (if Nat.blt n 191 = true then (if Nat.beq n 190 = true then (0, fun _ _ => .arraylength) else (9, fun _ _ => .nop)) else (if Nat.beq n 191 = true then (0, fun _ _ => .athrow) else (9, fun _ _ => .nop))) else (if Nat.blt n 199 = true then (if Nat.beq n 198 = true then (2, fun a _ => .ifnull (Reader.signed 16 a)) else (9, fun _ _ => .nop)) else (if Nat.beq n 199 = true then (2, fun a _ => .ifnonnull (Reader.signed 16 a)) else (9, fun _ _ => .nop)))))))))
def rdc_R (k : Nat) (B : Nat → Nat → Instr) (r : List UInt8) : Option (Instr × Nat) := if Nat.beq k 0 = true then some (B 0 0, 1) else match r with
  | [] => none
  | b1 :: r1 => if Nat.beq k 1 = true then some (B b1.toNat 0, 2) else match r1 with
    | [] => none
    | b2 :: _ => if Nat.beq k 2 = true then some (B (b1.toNat * 256 + b2.toNat) 0, 3) else if Nat.beq k 3 = true then some (B b1.toNat b2.toNat, 3) else none
def rdc_Op (op : Nat) : Prop := ∀ (c : ByteArray) (s pc : Nat) (b : UInt8) (r : List UInt8) (q : Instr × Nat), b.toNat = op → c.data.toList.drop s = b :: r → rdc_R (rdc_T op).1 (rdc_T op).2 r = some q → Reader.runAt (Decoder.instr pc) c s = .ok (q.1, s + q.2)
theorem rdc_h {c : ByteArray} {s : Nat} {b : UInt8} {r : List UInt8} (h : c.data.toList.drop s = b :: r) : c.data.toList[s]? = some b := by
  have := congrArg (fun l => l[0]?) h
  simpa [List.getElem?_drop] using this
theorem rdc_h1 {c : ByteArray} {s : Nat} {b b1 : UInt8} {r : List UInt8} (h : c.data.toList.drop s = b :: b1 :: r) : c.data.toList[s + 1]? = some b1 := by
  have := congrArg (fun l => l[1]?) h
  simpa [List.getElem?_drop] using this
theorem rdc_h2 {c : ByteArray} {s : Nat} {b b1 b2 : UInt8} {r : List UInt8} (h : c.data.toList.drop s = b :: b1 :: b2 :: r) : c.data.toList[s + 2]? = some b2 := by
  have := congrArg (fun l => l[2]?) h
  simpa [List.getElem?_drop] using this
theorem rdc_k0 {op : Nat} {B : Nat → Nat → Instr} (hT : rdc_T op = (0, B)) (h : ∀ (c : ByteArray) (s pc : Nat) (b : UInt8), b.toNat = op → c.data.toList[s]? = some b → Reader.runAt (Decoder.instr pc) c s = .ok (B 0 0, s + 1)) : rdc_Op op := fun c s pc b r q he hd hq => by
  rw [hT] at hq
  have hq' : some (B 0 0, 1) = some q := hq
  injection hq' with e
  rw [← e]
  exact h c s pc b he (rdc_h hd)
theorem rdc_k1 {op : Nat} {B : Nat → Nat → Instr} (hT : rdc_T op = (1, B)) (h : ∀ (c : ByteArray) (s pc : Nat) (b b1 : UInt8), b.toNat = op → c.data.toList[s]? = some b → c.data.toList[s + 1]? = some b1 → Reader.runAt (Decoder.instr pc) c s = .ok (B b1.toNat 0, s + 2)) : rdc_Op op := fun c s pc b r q he hd hq => by
  rw [hT] at hq
  cases r with
  | nil => cases hq
  | cons b1 r =>
    have hq' : some (B b1.toNat 0, 2) = some q := hq
    injection hq' with e
    rw [← e]
    exact h c s pc b b1 he (rdc_h hd) (rdc_h1 hd)
theorem rdc_k2 {op : Nat} {B : Nat → Nat → Instr} (hT : rdc_T op = (2, B)) (h : ∀ (c : ByteArray) (s pc : Nat) (b b1 b2 : UInt8), b.toNat = op → c.data.toList[s]? = some b → c.data.toList[s + 1]? = some b1 → c.data.toList[s + 2]? = some b2 → Reader.runAt (Decoder.instr pc) c s = .ok (B (b1.toNat * 256 + b2.toNat) 0, s + 3)) : rdc_Op op := fun c s pc b r q he hd hq => by
  rw [hT] at hq
  cases r with
  | nil => cases hq
  | cons b1 r =>
    cases r with
    | nil => cases hq
    | cons b2 r =>
      have hq' : some (B (b1.toNat * 256 + b2.toNat) 0, 3) = some q := hq
      injection hq' with e
      rw [← e]
      exact h c s pc b b1 b2 he (rdc_h hd) (rdc_h1 hd) (rdc_h2 hd)
theorem rdc_k3 {op : Nat} {B : Nat → Nat → Instr} (hT : rdc_T op = (3, B)) (h : ∀ (c : ByteArray) (s pc : Nat) (b b1 b2 : UInt8), b.toNat = op → c.data.toList[s]? = some b → c.data.toList[s + 1]? = some b1 → c.data.toList[s + 2]? = some b2 → Reader.runAt (Decoder.instr pc) c s = .ok (B b1.toNat b2.toNat, s + 3)) : rdc_Op op := fun c s pc b r q he hd hq => by
  rw [hT] at hq
  cases r with
  | nil => cases hq
  | cons b1 r =>
    cases r with
    | nil => cases hq
    | cons b2 r =>
      have hq' : some (B b1.toNat b2.toNat, 3) = some q := hq
      injection hq' with e
      rw [← e]
      exact h c s pc b b1 b2 he (rdc_h hd) (rdc_h1 hd) (rdc_h2 hd)
theorem rdc_op_1 : rdc_Op 1 := rdc_k0 (B := fun _ _ => .aconst_null) rfl (fun _ _ _ _ he hb => run0 hb he rfl)
theorem rdc_op_2 : rdc_Op 2 := rdc_k0 (B := fun _ _ => .iconst (-1)) rfl (fun _ _ _ _ he hb => run0 hb he rfl)
theorem rdc_op_3 : rdc_Op 3 := rdc_k0 (B := fun _ _ => .iconst 0) rfl (fun _ _ _ _ he hb => run0 hb he rfl)
theorem rdc_op_4 : rdc_Op 4 := rdc_k0 (B := fun _ _ => .iconst 1) rfl (fun _ _ _ _ he hb => run0 hb he rfl)
theorem rdc_op_5 : rdc_Op 5 := rdc_k0 (B := fun _ _ => .iconst 2) rfl (fun _ _ _ _ he hb => run0 hb he rfl)
theorem rdc_op_6 : rdc_Op 6 := rdc_k0 (B := fun _ _ => .iconst 3) rfl (fun _ _ _ _ he hb => run0 hb he rfl)
theorem rdc_op_7 : rdc_Op 7 := rdc_k0 (B := fun _ _ => .iconst 4) rfl (fun _ _ _ _ he hb => run0 hb he rfl)
theorem rdc_op_8 : rdc_Op 8 := rdc_k0 (B := fun _ _ => .iconst 5) rfl (fun _ _ _ _ he hb => run0 hb he rfl)
theorem rdc_op_9 : rdc_Op 9 := rdc_k0 (B := fun _ _ => .lconst 0) rfl (fun _ _ _ _ he hb => run0 hb he rfl)
theorem rdc_op_10 : rdc_Op 10 := rdc_k0 (B := fun _ _ => .lconst 1) rfl (fun _ _ _ _ he hb => run0 hb he rfl)
theorem rdc_op_16 : rdc_Op 16 := rdc_k1 (B := fun a _ => .bipush (Reader.signed 8 a)) rfl (fun _ _ _ _ _ he hb h1 => run1s (g := fun a => .bipush a) hb he rfl h1)
theorem rdc_op_17 : rdc_Op 17 := rdc_k2 (B := fun a _ => .sipush (Reader.signed 16 a)) rfl (fun _ _ _ _ _ _ he hb h1 h2 => run2s (g := fun a => .sipush a) hb he rfl h1 h2)
theorem rdc_op_18 : rdc_Op 18 := rdc_k1 (B := fun a _ => .ldc a) rfl (fun _ _ _ _ _ he hb h1 => run1 (g := fun a => .ldc a) hb he rfl h1)
theorem rdc_op_19 : rdc_Op 19 := rdc_k2 (B := fun a _ => .ldc_w a) rfl (fun _ _ _ _ _ _ he hb h1 h2 => run2 (g := fun a => .ldc_w a) hb he rfl h1 h2)
theorem rdc_op_20 : rdc_Op 20 := rdc_k2 (B := fun a _ => .ldc2_w a) rfl (fun _ _ _ _ _ _ he hb h1 h2 => run2 (g := fun a => .ldc2_w a) hb he rfl h1 h2)
theorem rdc_op_21 : rdc_Op 21 := rdc_k1 (B := fun a _ => .iload a) rfl (fun _ _ _ _ _ he hb h1 => run1 (g := fun a => .iload a) hb he rfl h1)
theorem rdc_op_22 : rdc_Op 22 := rdc_k1 (B := fun a _ => .lload a) rfl (fun _ _ _ _ _ he hb h1 => run1 (g := fun a => .lload a) hb he rfl h1)
theorem rdc_op_25 : rdc_Op 25 := rdc_k1 (B := fun a _ => .aload a) rfl (fun _ _ _ _ _ he hb h1 => run1 (g := fun a => .aload a) hb he rfl h1)
theorem rdc_op_26 : rdc_Op 26 := rdc_k0 (B := fun _ _ => .iload_n 0) rfl (fun _ _ _ _ he hb => run0 hb he rfl)
theorem rdc_op_27 : rdc_Op 27 := rdc_k0 (B := fun _ _ => .iload_n 1) rfl (fun _ _ _ _ he hb => run0 hb he rfl)
theorem rdc_op_28 : rdc_Op 28 := rdc_k0 (B := fun _ _ => .iload_n 2) rfl (fun _ _ _ _ he hb => run0 hb he rfl)
theorem rdc_op_29 : rdc_Op 29 := rdc_k0 (B := fun _ _ => .iload_n 3) rfl (fun _ _ _ _ he hb => run0 hb he rfl)
theorem rdc_op_30 : rdc_Op 30 := rdc_k0 (B := fun _ _ => .lload_n 0) rfl (fun _ _ _ _ he hb => run0 hb he rfl)
theorem rdc_op_31 : rdc_Op 31 := rdc_k0 (B := fun _ _ => .lload_n 1) rfl (fun _ _ _ _ he hb => run0 hb he rfl)
theorem rdc_op_32 : rdc_Op 32 := rdc_k0 (B := fun _ _ => .lload_n 2) rfl (fun _ _ _ _ he hb => run0 hb he rfl)
theorem rdc_op_33 : rdc_Op 33 := rdc_k0 (B := fun _ _ => .lload_n 3) rfl (fun _ _ _ _ he hb => run0 hb he rfl)
theorem rdc_op_42 : rdc_Op 42 := rdc_k0 (B := fun _ _ => .aload_n 0) rfl (fun _ _ _ _ he hb => run0 hb he rfl)
theorem rdc_op_43 : rdc_Op 43 := rdc_k0 (B := fun _ _ => .aload_n 1) rfl (fun _ _ _ _ he hb => run0 hb he rfl)
theorem rdc_op_44 : rdc_Op 44 := rdc_k0 (B := fun _ _ => .aload_n 2) rfl (fun _ _ _ _ he hb => run0 hb he rfl)
theorem rdc_op_45 : rdc_Op 45 := rdc_k0 (B := fun _ _ => .aload_n 3) rfl (fun _ _ _ _ he hb => run0 hb he rfl)
theorem rdc_op_46 : rdc_Op 46 := rdc_k0 (B := fun _ _ => .iaload) rfl (fun _ _ _ _ he hb => run0 hb he rfl)
theorem rdc_op_47 : rdc_Op 47 := rdc_k0 (B := fun _ _ => .laload) rfl (fun _ _ _ _ he hb => run0 hb he rfl)
theorem rdc_op_50 : rdc_Op 50 := rdc_k0 (B := fun _ _ => .aaload) rfl (fun _ _ _ _ he hb => run0 hb he rfl)
theorem rdc_op_51 : rdc_Op 51 := rdc_k0 (B := fun _ _ => .baload) rfl (fun _ _ _ _ he hb => run0 hb he rfl)
theorem rdc_op_54 : rdc_Op 54 := rdc_k1 (B := fun a _ => .istore a) rfl (fun _ _ _ _ _ he hb h1 => run1 (g := fun a => .istore a) hb he rfl h1)
theorem rdc_op_55 : rdc_Op 55 := rdc_k1 (B := fun a _ => .lstore a) rfl (fun _ _ _ _ _ he hb h1 => run1 (g := fun a => .lstore a) hb he rfl h1)
theorem rdc_op_58 : rdc_Op 58 := rdc_k1 (B := fun a _ => .astore a) rfl (fun _ _ _ _ _ he hb h1 => run1 (g := fun a => .astore a) hb he rfl h1)
theorem rdc_op_59 : rdc_Op 59 := rdc_k0 (B := fun _ _ => .istore_n 0) rfl (fun _ _ _ _ he hb => run0 hb he rfl)
theorem rdc_op_60 : rdc_Op 60 := rdc_k0 (B := fun _ _ => .istore_n 1) rfl (fun _ _ _ _ he hb => run0 hb he rfl)
theorem rdc_op_61 : rdc_Op 61 := rdc_k0 (B := fun _ _ => .istore_n 2) rfl (fun _ _ _ _ he hb => run0 hb he rfl)
theorem rdc_op_62 : rdc_Op 62 := rdc_k0 (B := fun _ _ => .istore_n 3) rfl (fun _ _ _ _ he hb => run0 hb he rfl)
theorem rdc_op_63 : rdc_Op 63 := rdc_k0 (B := fun _ _ => .lstore_n 0) rfl (fun _ _ _ _ he hb => run0 hb he rfl)
theorem rdc_op_64 : rdc_Op 64 := rdc_k0 (B := fun _ _ => .lstore_n 1) rfl (fun _ _ _ _ he hb => run0 hb he rfl)
theorem rdc_op_65 : rdc_Op 65 := rdc_k0 (B := fun _ _ => .lstore_n 2) rfl (fun _ _ _ _ he hb => run0 hb he rfl)
theorem rdc_op_66 : rdc_Op 66 := rdc_k0 (B := fun _ _ => .lstore_n 3) rfl (fun _ _ _ _ he hb => run0 hb he rfl)
theorem rdc_op_75 : rdc_Op 75 := rdc_k0 (B := fun _ _ => .astore_n 0) rfl (fun _ _ _ _ he hb => run0 hb he rfl)
theorem rdc_op_76 : rdc_Op 76 := rdc_k0 (B := fun _ _ => .astore_n 1) rfl (fun _ _ _ _ he hb => run0 hb he rfl)
theorem rdc_op_77 : rdc_Op 77 := rdc_k0 (B := fun _ _ => .astore_n 2) rfl (fun _ _ _ _ he hb => run0 hb he rfl)
theorem rdc_op_78 : rdc_Op 78 := rdc_k0 (B := fun _ _ => .astore_n 3) rfl (fun _ _ _ _ he hb => run0 hb he rfl)
theorem rdc_op_79 : rdc_Op 79 := rdc_k0 (B := fun _ _ => .iastore) rfl (fun _ _ _ _ he hb => run0 hb he rfl)
theorem rdc_op_80 : rdc_Op 80 := rdc_k0 (B := fun _ _ => .lastore) rfl (fun _ _ _ _ he hb => run0 hb he rfl)
theorem rdc_op_83 : rdc_Op 83 := rdc_k0 (B := fun _ _ => .aastore) rfl (fun _ _ _ _ he hb => run0 hb he rfl)
theorem rdc_op_84 : rdc_Op 84 := rdc_k0 (B := fun _ _ => .bastore) rfl (fun _ _ _ _ he hb => run0 hb he rfl)
theorem rdc_op_87 : rdc_Op 87 := rdc_k0 (B := fun _ _ => .pop) rfl (fun _ _ _ _ he hb => run0 hb he rfl)
theorem rdc_op_88 : rdc_Op 88 := rdc_k0 (B := fun _ _ => .pop2) rfl (fun _ _ _ _ he hb => run0 hb he rfl)
theorem rdc_op_89 : rdc_Op 89 := rdc_k0 (B := fun _ _ => .dup) rfl (fun _ _ _ _ he hb => run0 hb he rfl)
theorem rdc_op_92 : rdc_Op 92 := rdc_k0 (B := fun _ _ => .dup2) rfl (fun _ _ _ _ he hb => run0 hb he rfl)
theorem rdc_op_96 : rdc_Op 96 := rdc_k0 (B := fun _ _ => .iadd) rfl (fun _ _ _ _ he hb => run0 hb he rfl)
theorem rdc_op_97 : rdc_Op 97 := rdc_k0 (B := fun _ _ => .ladd) rfl (fun _ _ _ _ he hb => run0 hb he rfl)
theorem rdc_op_100 : rdc_Op 100 := rdc_k0 (B := fun _ _ => .isub) rfl (fun _ _ _ _ he hb => run0 hb he rfl)
theorem rdc_op_101 : rdc_Op 101 := rdc_k0 (B := fun _ _ => .lsub) rfl (fun _ _ _ _ he hb => run0 hb he rfl)
theorem rdc_op_104 : rdc_Op 104 := rdc_k0 (B := fun _ _ => .imul) rfl (fun _ _ _ _ he hb => run0 hb he rfl)
theorem rdc_op_105 : rdc_Op 105 := rdc_k0 (B := fun _ _ => .lmul) rfl (fun _ _ _ _ he hb => run0 hb he rfl)
theorem rdc_op_108 : rdc_Op 108 := rdc_k0 (B := fun _ _ => .idiv) rfl (fun _ _ _ _ he hb => run0 hb he rfl)
theorem rdc_op_112 : rdc_Op 112 := rdc_k0 (B := fun _ _ => .irem) rfl (fun _ _ _ _ he hb => run0 hb he rfl)
theorem rdc_op_117 : rdc_Op 117 := rdc_k0 (B := fun _ _ => .lneg) rfl (fun _ _ _ _ he hb => run0 hb he rfl)
theorem rdc_op_120 : rdc_Op 120 := rdc_k0 (B := fun _ _ => .ishl) rfl (fun _ _ _ _ he hb => run0 hb he rfl)
theorem rdc_op_121 : rdc_Op 121 := rdc_k0 (B := fun _ _ => .lshl) rfl (fun _ _ _ _ he hb => run0 hb he rfl)
theorem rdc_op_122 : rdc_Op 122 := rdc_k0 (B := fun _ _ => .ishr) rfl (fun _ _ _ _ he hb => run0 hb he rfl)
theorem rdc_op_123 : rdc_Op 123 := rdc_k0 (B := fun _ _ => .lshr) rfl (fun _ _ _ _ he hb => run0 hb he rfl)
theorem rdc_op_124 : rdc_Op 124 := rdc_k0 (B := fun _ _ => .iushr) rfl (fun _ _ _ _ he hb => run0 hb he rfl)
theorem rdc_op_125 : rdc_Op 125 := rdc_k0 (B := fun _ _ => .lushr) rfl (fun _ _ _ _ he hb => run0 hb he rfl)
theorem rdc_op_126 : rdc_Op 126 := rdc_k0 (B := fun _ _ => .iand) rfl (fun _ _ _ _ he hb => run0 hb he rfl)
theorem rdc_op_127 : rdc_Op 127 := rdc_k0 (B := fun _ _ => .land) rfl (fun _ _ _ _ he hb => run0 hb he rfl)
theorem rdc_op_128 : rdc_Op 128 := rdc_k0 (B := fun _ _ => .ior) rfl (fun _ _ _ _ he hb => run0 hb he rfl)
theorem rdc_op_129 : rdc_Op 129 := rdc_k0 (B := fun _ _ => .lor) rfl (fun _ _ _ _ he hb => run0 hb he rfl)
theorem rdc_op_130 : rdc_Op 130 := rdc_k0 (B := fun _ _ => .ixor) rfl (fun _ _ _ _ he hb => run0 hb he rfl)
theorem rdc_op_131 : rdc_Op 131 := rdc_k0 (B := fun _ _ => .lxor) rfl (fun _ _ _ _ he hb => run0 hb he rfl)
theorem rdc_op_132 : rdc_Op 132 := rdc_k3 (B := fun a b => .iinc a (Reader.signed 8 b)) rfl (fun _ _ _ _ _ _ he hb h1 h2 => run3 (g := fun a b => .iinc a b) hb he rfl h1 h2)
theorem rdc_op_133 : rdc_Op 133 := rdc_k0 (B := fun _ _ => .i2l) rfl (fun _ _ _ _ he hb => run0 hb he rfl)
theorem rdc_op_136 : rdc_Op 136 := rdc_k0 (B := fun _ _ => .l2i) rfl (fun _ _ _ _ he hb => run0 hb he rfl)
theorem rdc_op_145 : rdc_Op 145 := rdc_k0 (B := fun _ _ => .i2b) rfl (fun _ _ _ _ he hb => run0 hb he rfl)
theorem rdc_op_146 : rdc_Op 146 := rdc_k0 (B := fun _ _ => .i2c) rfl (fun _ _ _ _ he hb => run0 hb he rfl)
theorem rdc_op_147 : rdc_Op 147 := rdc_k0 (B := fun _ _ => .i2s) rfl (fun _ _ _ _ he hb => run0 hb he rfl)
theorem rdc_op_148 : rdc_Op 148 := rdc_k0 (B := fun _ _ => .lcmp) rfl (fun _ _ _ _ he hb => run0 hb he rfl)
theorem rdc_op_153 : rdc_Op 153 := rdc_k2 (B := fun a _ => .ifCond .eq (Reader.signed 16 a)) rfl (fun _ _ _ _ _ _ he hb h1 h2 => run2s (g := fun a => .ifCond .eq a) hb he rfl h1 h2)
theorem rdc_op_154 : rdc_Op 154 := rdc_k2 (B := fun a _ => .ifCond .ne (Reader.signed 16 a)) rfl (fun _ _ _ _ _ _ he hb h1 h2 => run2s (g := fun a => .ifCond .ne a) hb he rfl h1 h2)
theorem rdc_op_155 : rdc_Op 155 := rdc_k2 (B := fun a _ => .ifCond .lt (Reader.signed 16 a)) rfl (fun _ _ _ _ _ _ he hb h1 h2 => run2s (g := fun a => .ifCond .lt a) hb he rfl h1 h2)
theorem rdc_op_156 : rdc_Op 156 := rdc_k2 (B := fun a _ => .ifCond .ge (Reader.signed 16 a)) rfl (fun _ _ _ _ _ _ he hb h1 h2 => run2s (g := fun a => .ifCond .ge a) hb he rfl h1 h2)
theorem rdc_op_157 : rdc_Op 157 := rdc_k2 (B := fun a _ => .ifCond .gt (Reader.signed 16 a)) rfl (fun _ _ _ _ _ _ he hb h1 h2 => run2s (g := fun a => .ifCond .gt a) hb he rfl h1 h2)
theorem rdc_op_158 : rdc_Op 158 := rdc_k2 (B := fun a _ => .ifCond .le (Reader.signed 16 a)) rfl (fun _ _ _ _ _ _ he hb h1 h2 => run2s (g := fun a => .ifCond .le a) hb he rfl h1 h2)
theorem rdc_op_159 : rdc_Op 159 := rdc_k2 (B := fun a _ => .if_icmp .eq (Reader.signed 16 a)) rfl (fun _ _ _ _ _ _ he hb h1 h2 => run2s (g := fun a => .if_icmp .eq a) hb he rfl h1 h2)
theorem rdc_op_160 : rdc_Op 160 := rdc_k2 (B := fun a _ => .if_icmp .ne (Reader.signed 16 a)) rfl (fun _ _ _ _ _ _ he hb h1 h2 => run2s (g := fun a => .if_icmp .ne a) hb he rfl h1 h2)
theorem rdc_op_161 : rdc_Op 161 := rdc_k2 (B := fun a _ => .if_icmp .lt (Reader.signed 16 a)) rfl (fun _ _ _ _ _ _ he hb h1 h2 => run2s (g := fun a => .if_icmp .lt a) hb he rfl h1 h2)
theorem rdc_op_162 : rdc_Op 162 := rdc_k2 (B := fun a _ => .if_icmp .ge (Reader.signed 16 a)) rfl (fun _ _ _ _ _ _ he hb h1 h2 => run2s (g := fun a => .if_icmp .ge a) hb he rfl h1 h2)
theorem rdc_op_163 : rdc_Op 163 := rdc_k2 (B := fun a _ => .if_icmp .gt (Reader.signed 16 a)) rfl (fun _ _ _ _ _ _ he hb h1 h2 => run2s (g := fun a => .if_icmp .gt a) hb he rfl h1 h2)
theorem rdc_op_164 : rdc_Op 164 := rdc_k2 (B := fun a _ => .if_icmp .le (Reader.signed 16 a)) rfl (fun _ _ _ _ _ _ he hb h1 h2 => run2s (g := fun a => .if_icmp .le a) hb he rfl h1 h2)
theorem rdc_op_165 : rdc_Op 165 := rdc_k2 (B := fun a _ => .if_acmp .eq (Reader.signed 16 a)) rfl (fun _ _ _ _ _ _ he hb h1 h2 => run2s (g := fun a => .if_acmp .eq a) hb he rfl h1 h2)
theorem rdc_op_166 : rdc_Op 166 := rdc_k2 (B := fun a _ => .if_acmp .ne (Reader.signed 16 a)) rfl (fun _ _ _ _ _ _ he hb h1 h2 => run2s (g := fun a => .if_acmp .ne a) hb he rfl h1 h2)
theorem rdc_op_167 : rdc_Op 167 := rdc_k2 (B := fun a _ => .goto (Reader.signed 16 a)) rfl (fun _ _ _ _ _ _ he hb h1 h2 => run2s (g := fun a => .goto a) hb he rfl h1 h2)
theorem rdc_op_172 : rdc_Op 172 := rdc_k0 (B := fun _ _ => .ireturn) rfl (fun _ _ _ _ he hb => run0 hb he rfl)
theorem rdc_op_173 : rdc_Op 173 := rdc_k0 (B := fun _ _ => .lreturn) rfl (fun _ _ _ _ he hb => run0 hb he rfl)
theorem rdc_op_176 : rdc_Op 176 := rdc_k0 (B := fun _ _ => .areturn) rfl (fun _ _ _ _ he hb => run0 hb he rfl)
theorem rdc_op_177 : rdc_Op 177 := rdc_k0 (B := fun _ _ => .return_) rfl (fun _ _ _ _ he hb => run0 hb he rfl)
theorem rdc_op_178 : rdc_Op 178 := rdc_k2 (B := fun a _ => .getstatic a) rfl (fun _ _ _ _ _ _ he hb h1 h2 => run2 (g := fun a => .getstatic a) hb he rfl h1 h2)
theorem rdc_op_180 : rdc_Op 180 := rdc_k2 (B := fun a _ => .getfield a) rfl (fun _ _ _ _ _ _ he hb h1 h2 => run2 (g := fun a => .getfield a) hb he rfl h1 h2)
theorem rdc_op_181 : rdc_Op 181 := rdc_k2 (B := fun a _ => .putfield a) rfl (fun _ _ _ _ _ _ he hb h1 h2 => run2 (g := fun a => .putfield a) hb he rfl h1 h2)
theorem rdc_op_182 : rdc_Op 182 := rdc_k2 (B := fun a _ => .invokevirtual a) rfl (fun _ _ _ _ _ _ he hb h1 h2 => run2 (g := fun a => .invokevirtual a) hb he rfl h1 h2)
theorem rdc_op_183 : rdc_Op 183 := rdc_k2 (B := fun a _ => .invokespecial a) rfl (fun _ _ _ _ _ _ he hb h1 h2 => run2 (g := fun a => .invokespecial a) hb he rfl h1 h2)
theorem rdc_op_184 : rdc_Op 184 := rdc_k2 (B := fun a _ => .invokestatic a) rfl (fun _ _ _ _ _ _ he hb h1 h2 => run2 (g := fun a => .invokestatic a) hb he rfl h1 h2)
theorem rdc_op_187 : rdc_Op 187 := rdc_k2 (B := fun a _ => .new a) rfl (fun _ _ _ _ _ _ he hb h1 h2 => run2 (g := fun a => .new a) hb he rfl h1 h2)
theorem rdc_op_189 : rdc_Op 189 := rdc_k2 (B := fun a _ => .anewarray a) rfl (fun _ _ _ _ _ _ he hb h1 h2 => run2 (g := fun a => .anewarray a) hb he rfl h1 h2)
theorem rdc_op_190 : rdc_Op 190 := rdc_k0 (B := fun _ _ => .arraylength) rfl (fun _ _ _ _ he hb => run0 hb he rfl)
theorem rdc_op_191 : rdc_Op 191 := rdc_k0 (B := fun _ _ => .athrow) rfl (fun _ _ _ _ he hb => run0 hb he rfl)
theorem rdc_op_198 : rdc_Op 198 := rdc_k2 (B := fun a _ => .ifnull (Reader.signed 16 a)) rfl (fun _ _ _ _ _ _ he hb h1 h2 => run2s (g := fun a => .ifnull a) hb he rfl h1 h2)
theorem rdc_op_199 : rdc_Op 199 := rdc_k2 (B := fun a _ => .ifnonnull (Reader.signed 16 a)) rfl (fun _ _ _ _ _ _ he hb h1 h2 => run2s (g := fun a => .ifnonnull a) hb he rfl h1 h2)
def rdc_l : List Nat := [1, 2, 3, 4, 5, 6, 7, 8, 9, 10, 16, 17, 18, 19, 20, 21, 22, 25, 26, 27, 28, 29, 30, 31, 32, 33, 42, 43, 44, 45, 46, 47, 50, 51, 54, 55, 58, 59, 60, 61, 62, 63, 64, 65, 66, 75, 76, 77, 78, 79, 80, 83, 84, 87, 88, 89, 92, 96, 97, 100, 101, 104, 105, 108, 112, 117, 120, 121, 122, 123, 124, 125, 126, 127, 128, 129, 130, 131, 132, 133, 136, 145, 146, 147, 148, 153, 154, 155, 156, 157, 158, 159, 160, 161, 162, 163, 164, 165, 166, 167, 172, 173, 176, 177, 178, 180, 181, 182, 183, 184, 187, 189, 190, 191, 198, 199]
theorem rdc_cons {P : Nat → Prop} {a : Nat} {l : List Nat} (h : P a) (t : ∀ x ∈ l, P x) : ∀ x ∈ a :: l, P x := List.forall_mem_cons.mpr ⟨h, t⟩
theorem rdc_lOk : ∀ x ∈ rdc_l, rdc_Op x := rdc_cons rdc_op_1 (rdc_cons rdc_op_2 (rdc_cons rdc_op_3 (rdc_cons rdc_op_4 (rdc_cons rdc_op_5 (rdc_cons rdc_op_6 (rdc_cons rdc_op_7 (rdc_cons rdc_op_8 (rdc_cons rdc_op_9 (rdc_cons rdc_op_10 (rdc_cons rdc_op_16 (rdc_cons rdc_op_17 (rdc_cons rdc_op_18 (rdc_cons rdc_op_19 (rdc_cons rdc_op_20 (rdc_cons rdc_op_21 (rdc_cons rdc_op_22 (rdc_cons rdc_op_25 (rdc_cons rdc_op_26 (rdc_cons rdc_op_27 (rdc_cons rdc_op_28 (rdc_cons rdc_op_29 (rdc_cons rdc_op_30 (rdc_cons rdc_op_31 (rdc_cons rdc_op_32 (rdc_cons rdc_op_33 (rdc_cons rdc_op_42 (rdc_cons rdc_op_43 (rdc_cons rdc_op_44 (rdc_cons rdc_op_45 (rdc_cons rdc_op_46 (rdc_cons rdc_op_47 (rdc_cons rdc_op_50 (rdc_cons rdc_op_51 (rdc_cons rdc_op_54 (rdc_cons rdc_op_55 (rdc_cons rdc_op_58 (rdc_cons rdc_op_59 (rdc_cons rdc_op_60 (rdc_cons rdc_op_61 (rdc_cons rdc_op_62 (rdc_cons rdc_op_63 (rdc_cons rdc_op_64 (rdc_cons rdc_op_65 (rdc_cons rdc_op_66 (rdc_cons rdc_op_75 (rdc_cons rdc_op_76 (rdc_cons rdc_op_77 (rdc_cons rdc_op_78 (rdc_cons rdc_op_79 (rdc_cons rdc_op_80 (rdc_cons rdc_op_83 (rdc_cons rdc_op_84 (rdc_cons rdc_op_87 (rdc_cons rdc_op_88 (rdc_cons rdc_op_89 (rdc_cons rdc_op_92 (rdc_cons rdc_op_96 (rdc_cons rdc_op_97 (rdc_cons rdc_op_100 (rdc_cons rdc_op_101 (rdc_cons rdc_op_104 (rdc_cons rdc_op_105 (rdc_cons rdc_op_108 (rdc_cons rdc_op_112 (rdc_cons rdc_op_117 (rdc_cons rdc_op_120 (rdc_cons rdc_op_121 (rdc_cons rdc_op_122 (rdc_cons rdc_op_123 (rdc_cons rdc_op_124 (rdc_cons rdc_op_125 (rdc_cons rdc_op_126 (rdc_cons rdc_op_127 (rdc_cons rdc_op_128 (rdc_cons rdc_op_129 (rdc_cons rdc_op_130 (rdc_cons rdc_op_131 (rdc_cons rdc_op_132 (rdc_cons rdc_op_133 (rdc_cons rdc_op_136 (rdc_cons rdc_op_145 (rdc_cons rdc_op_146 (rdc_cons rdc_op_147 (rdc_cons rdc_op_148 (rdc_cons rdc_op_153 (rdc_cons rdc_op_154 (rdc_cons rdc_op_155 (rdc_cons rdc_op_156 (rdc_cons rdc_op_157 (rdc_cons rdc_op_158 (rdc_cons rdc_op_159 (rdc_cons rdc_op_160 (rdc_cons rdc_op_161 (rdc_cons rdc_op_162 (rdc_cons rdc_op_163 (rdc_cons rdc_op_164 (rdc_cons rdc_op_165 (rdc_cons rdc_op_166 (rdc_cons rdc_op_167 (rdc_cons rdc_op_172 (rdc_cons rdc_op_173 (rdc_cons rdc_op_176 (rdc_cons rdc_op_177 (rdc_cons rdc_op_178 (rdc_cons rdc_op_180 (rdc_cons rdc_op_181 (rdc_cons rdc_op_182 (rdc_cons rdc_op_183 (rdc_cons rdc_op_184 (rdc_cons rdc_op_187 (rdc_cons rdc_op_189 (rdc_cons rdc_op_190 (rdc_cons rdc_op_191 (rdc_cons rdc_op_198 (rdc_cons rdc_op_199 (fun x h => absurd h List.not_mem_nil))))))))))))))))))))))))))))))))))))))))))))))))))))))))))))))))))))))))))))))))))))))))))))))))))))))))))))))))))))
theorem rdc_mOk : ∀ x, x < 256 → Nat.beq (rdc_T x).1 9 = false → x ∈ rdc_l := by decide +kernel
def rdc_chk (c : ByteArray) : Nat → List UInt8 → List (Nat × Instr × Nat) → Bool
  | _, _, [] => true
  | p, l, q :: T => match l.drop (q.1 - p) with
    | [] => false
    | b :: r => Nat.ble p q.1 && (match Nat.beq (rdc_T b.toNat).1 9 with
      | true => decide (decode c q.1 = .ok q.2)
      | false => decide (rdc_R (rdc_T b.toNat).1 (rdc_T b.toNat).2 r = some q.2)) && rdc_chk c q.1 (b :: r) T
theorem rdc_win {c : ByteArray} {pc : Nat} {b : UInt8} {r : List UInt8} {q : Instr × Nat} (hl : c.data.toList.drop pc = b :: r) (hm : Nat.beq (rdc_T b.toNat).1 9 = false) (h : rdc_R (rdc_T b.toNat).1 (rdc_T b.toNat).2 r = some q) : decode c pc = .ok q := by
  show (Reader.runAt (Decoder.instr pc) c pc).bind (fun x => (.ok (x.1, x.2 - pc) : Except DecodeError (Instr × Nat))) = .ok q
  rw [rdc_lOk b.toNat (rdc_mOk b.toNat b.toNat_lt hm) c pc pc b r q rfl hl h]
  show (Except.ok (q.1, pc + q.2 - pc) : Except DecodeError (Instr × Nat)) = .ok q
  rw [Nat.add_sub_cancel_left]
theorem rdc_all {c : ByteArray} : ∀ (T : List (Nat × Instr × Nat)) (p : Nat) (l : List UInt8), l = c.data.toList.drop p → rdc_chk c p l T = true → (T.all fun q => decide (decode c q.1 = .ok q.2)) = true := by
  intro T
  induction T with
  | nil => intro _ _ _ _; rfl
  | cons q T ih =>
    intro p l hl h
    unfold rdc_chk at h
    cases hd : l.drop (q.1 - p) with
    | nil =>
      rw [hd] at h
      cases h
    | cons b r =>
      rw [hd] at h
      have h' : (Nat.ble p q.1 && (match Nat.beq (rdc_T b.toNat).1 9 with
        | true => decide (decode c q.1 = .ok q.2)
        | false => decide (rdc_R (rdc_T b.toNat).1 (rdc_T b.toNat).2 r = some q.2)) && rdc_chk c q.1 (b :: r) T) = true := h
      rw [Bool.and_eq_true, Bool.and_eq_true] at h'
      obtain ⟨⟨h1, h2⟩, h3⟩ := h'
      have hp : p ≤ q.1 := Nat.le_of_ble_eq_true h1
      have hdr : c.data.toList.drop q.1 = b :: r := by
        rw [← hd, hl, List.drop_drop, Nat.add_sub_cancel' hp]
      rw [List.all_cons, Bool.and_eq_true]
      refine ⟨?_, ih q.1 (b :: r) hdr.symm h3⟩
      cases g : Nat.beq (rdc_T b.toNat).1 9 with
      | true =>
        rw [g] at h2
        exact h2
      | false =>
        rw [g] at h2
        exact decide_eq_true (rdc_win hdr g (of_decide_eq_true h2))
