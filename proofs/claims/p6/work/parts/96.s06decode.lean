/-! EACH INSTRUCTION, by the kernel: what the machine reads of the bytes at a place -/
def k9d_u1 (code : ByteArray) (p n : Nat) : Prop := Jvm.ClassFile.Reader.runAt (Jvm.ClassFile.Reader.u1 : Jvm.ClassFile.Decoder Nat) code p = .ok (n, p + 1)
theorem k9d_bd {α β : Type} {r : Jvm.ClassFile.Decoder β} {f : β → Jvm.ClassFile.Decoder α} {code : ByteArray} {p q : Nat} {v : β} (h : Jvm.ClassFile.Reader.runAt r code p = .ok (v, q)) : Jvm.ClassFile.Reader.runAt (r >>= f) code p = Jvm.ClassFile.Reader.runAt (f v) code q := by
  have e : Jvm.ClassFile.Reader.runAt (r >>= f) code p = Except.bind (Jvm.ClassFile.Reader.runAt r code p) (fun a => Jvm.ClassFile.Reader.runAt (f a.1) code a.2) := rfl
  rw [e, h]
  rfl
theorem k9d_mp {β γ : Type} {r : Jvm.ClassFile.Decoder β} {g : β → γ} {code : ByteArray} {p q : Nat} {v : β} (h : Jvm.ClassFile.Reader.runAt r code p = .ok (v, q)) : Jvm.ClassFile.Reader.runAt (g <$> r) code p = .ok (g v, q) := by
  have e : Jvm.ClassFile.Reader.runAt (g <$> r) code p = Except.bind (Jvm.ClassFile.Reader.runAt r code p) (fun a => .ok (g a.1, a.2)) := rfl
  rw [e, h]
  rfl
theorem k9d_u2 {code : ByteArray} {p a b : Nat} (h1 : k9d_u1 code p a) (h2 : k9d_u1 code (p + 1) b) : Jvm.ClassFile.Reader.runAt (Jvm.ClassFile.Reader.u2 : Jvm.ClassFile.Decoder Nat) code p = .ok (a * 256 + b, p + 2) := by
  have e : (Jvm.ClassFile.Reader.u2 : Jvm.ClassFile.Decoder Nat) = (Jvm.ClassFile.Reader.u1 >>= fun hi => Jvm.ClassFile.Reader.u1 >>= fun lo => Pure.pure (hi * 256 + lo)) := rfl
  rw [e, k9d_bd h1, k9d_bd h2]
  rfl
theorem k9d_s1 {code : ByteArray} {p a : Nat} (h1 : k9d_u1 code p a) : Jvm.ClassFile.Reader.runAt (Jvm.ClassFile.Reader.s1 : Jvm.ClassFile.Decoder Int) code p = .ok (Jvm.ClassFile.Reader.signed 8 a, p + 1) := k9d_mp h1
theorem k9d_s2 {code : ByteArray} {p a b : Nat} (h1 : k9d_u1 code p a) (h2 : k9d_u1 code (p + 1) b) : Jvm.ClassFile.Reader.runAt (Jvm.ClassFile.Reader.s2 : Jvm.ClassFile.Decoder Int) code p = .ok (Jvm.ClassFile.Reader.signed 16 (a * 256 + b), p + 2) := k9d_mp (k9d_u2 h1 h2)
theorem k9d_dc {code : ByteArray} {pc n : Nat} {i : Instr} (h : Jvm.ClassFile.Reader.runAt (Jvm.ClassFile.Decoder.instr pc) code pc = .ok (i, pc + n)) : decode code pc = .ok (i, n) := by
  have e : decode code pc = Except.bind (Jvm.ClassFile.Reader.runAt (Jvm.ClassFile.Decoder.instr pc) code pc) (fun a => .ok (a.1, a.2 - pc)) := rfl
  rw [e, h]
  show Except.ok (i, pc + n - pc) = Except.ok (i, n)
  rw [Nat.add_sub_cancel_left]
theorem k9d_r {β : Type} {r : Jvm.ClassFile.Decoder β} {g : β → Instr} {f : Nat → Jvm.ClassFile.Decoder Instr} {code : ByteArray} {pc op n : Nat} {v : β} (h0 : k9d_u1 code pc op) (hr : Jvm.ClassFile.Reader.runAt r code (pc + 1) = .ok (v, pc + n)) (hf : Jvm.ClassFile.Decoder.instr pc = (Jvm.ClassFile.Reader.u1 >>= f)) (hk : f op = (r >>= fun x => Pure.pure (g x))) : decode code pc = .ok (g v, n) :=
  k9d_dc (by rw [hf, k9d_bd h0, hk, k9d_bd hr]; rfl)
theorem k9d_f1 (op : Nat) {f : Nat → Jvm.ClassFile.Decoder Instr} {code : ByteArray} {pc b0 n : Nat} {i : Instr} (h : (Nat.beq b0 op && Nat.beq n 1) = true) (h0 : k9d_u1 code pc b0) (hf : Jvm.ClassFile.Decoder.instr pc = (Jvm.ClassFile.Reader.u1 >>= f)) (hk : f op = Pure.pure i) : decode code pc = .ok (i, n) := by
  rw [Bool.and_eq_true] at h
  cases Nat.eq_of_beq_eq_true h.1
  cases Nat.eq_of_beq_eq_true h.2
  exact k9d_dc (by rw [hf, k9d_bd h0, hk]; rfl)
theorem k9d_f2 (op : Nat) {g : Nat → Instr} {f : Nat → Jvm.ClassFile.Decoder Instr} {code : ByteArray} {pc b0 b1 n a : Nat} (h : (Nat.beq b0 op && (Nat.beq a b1 && Nat.beq n 2)) = true) (h0 : k9d_u1 code pc b0) (h1 : 2 ≤ n → k9d_u1 code (pc + 1) b1) (hf : Jvm.ClassFile.Decoder.instr pc = (Jvm.ClassFile.Reader.u1 >>= f)) (hk : f op = (Jvm.ClassFile.Reader.u1 >>= fun x => Pure.pure (g x))) : decode code pc = .ok (g a, n) := by
  rw [Bool.and_eq_true, Bool.and_eq_true] at h
  cases Nat.eq_of_beq_eq_true h.1
  cases Nat.eq_of_beq_eq_true h.2.1
  cases Nat.eq_of_beq_eq_true h.2.2
  exact k9d_r h0 (h1 (Nat.le_refl 2)) hf hk
theorem k9d_f2s (op : Nat) {g : Int → Instr} {f : Nat → Jvm.ClassFile.Decoder Instr} {code : ByteArray} {pc b0 b1 n : Nat} {a : Int} (h : (Nat.beq b0 op && (decide (a = Jvm.ClassFile.Reader.signed 8 b1) && Nat.beq n 2)) = true) (h0 : k9d_u1 code pc b0) (h1 : 2 ≤ n → k9d_u1 code (pc + 1) b1) (hf : Jvm.ClassFile.Decoder.instr pc = (Jvm.ClassFile.Reader.u1 >>= f)) (hk : f op = (Jvm.ClassFile.Reader.s1 >>= fun x => Pure.pure (g x))) : decode code pc = .ok (g a, n) := by
  rw [Bool.and_eq_true, Bool.and_eq_true, decide_eq_true_eq] at h
  cases Nat.eq_of_beq_eq_true h.1
  cases Nat.eq_of_beq_eq_true h.2.2
  rw [h.2.1]
  exact k9d_r h0 (k9d_s1 (h1 (Nat.le_refl 2))) hf hk
theorem k9d_f3 (op : Nat) {g : Nat → Instr} {f : Nat → Jvm.ClassFile.Decoder Instr} {code : ByteArray} {pc b0 b1 b2 n a : Nat} (h : (Nat.beq b0 op && (Nat.beq a (b1 * 256 + b2) && Nat.beq n 3)) = true) (h0 : k9d_u1 code pc b0) (h1 : 2 ≤ n → k9d_u1 code (pc + 1) b1) (h2 : 3 ≤ n → k9d_u1 code (pc + 2) b2) (hf : Jvm.ClassFile.Decoder.instr pc = (Jvm.ClassFile.Reader.u1 >>= f)) (hk : f op = (Jvm.ClassFile.Reader.u2 >>= fun x => Pure.pure (g x))) : decode code pc = .ok (g a, n) := by
  rw [Bool.and_eq_true, Bool.and_eq_true] at h
  cases Nat.eq_of_beq_eq_true h.1
  cases Nat.eq_of_beq_eq_true h.2.1
  cases Nat.eq_of_beq_eq_true h.2.2
  exact k9d_r h0 (k9d_u2 (h1 (by decide)) (h2 (by decide))) hf hk
theorem k9d_f4 (op : Nat) {g : Int → Instr} {f : Nat → Jvm.ClassFile.Decoder Instr} {code : ByteArray} {pc b0 b1 b2 n : Nat} {a : Int} (h : (Nat.beq b0 op && (decide (a = Jvm.ClassFile.Reader.signed 16 (b1 * 256 + b2)) && Nat.beq n 3)) = true) (h0 : k9d_u1 code pc b0) (h1 : 2 ≤ n → k9d_u1 code (pc + 1) b1) (h2 : 3 ≤ n → k9d_u1 code (pc + 2) b2) (hf : Jvm.ClassFile.Decoder.instr pc = (Jvm.ClassFile.Reader.u1 >>= f)) (hk : f op = (Jvm.ClassFile.Reader.s2 >>= fun x => Pure.pure (g x))) : decode code pc = .ok (g a, n) := by
  rw [Bool.and_eq_true, Bool.and_eq_true, decide_eq_true_eq] at h
  cases Nat.eq_of_beq_eq_true h.1
  cases Nat.eq_of_beq_eq_true h.2.2
  rw [h.2.1]
  exact k9d_r h0 (k9d_s2 (h1 (by decide)) (h2 (by decide))) hf hk
theorem k9d_f5 {f : Nat → Jvm.ClassFile.Decoder Instr} {code : ByteArray} {pc b0 b1 b2 n a : Nat} {c : Int} (h : (Nat.beq b0 132 && (Nat.beq a b1 && (decide (c = Jvm.ClassFile.Reader.signed 8 b2) && Nat.beq n 3))) = true) (h0 : k9d_u1 code pc b0) (h1 : 2 ≤ n → k9d_u1 code (pc + 1) b1) (h2 : 3 ≤ n → k9d_u1 code (pc + 2) b2) (hf : Jvm.ClassFile.Decoder.instr pc = (Jvm.ClassFile.Reader.u1 >>= f)) (hk : f 132 = (Jvm.ClassFile.Reader.u1 >>= fun x => Jvm.ClassFile.Reader.s1 >>= fun y => Pure.pure (.iinc x y))) : decode code pc = .ok (.iinc a c, n) := by
  rw [Bool.and_eq_true, Bool.and_eq_true, Bool.and_eq_true, decide_eq_true_eq] at h
  cases Nat.eq_of_beq_eq_true h.1
  cases Nat.eq_of_beq_eq_true h.2.1
  cases Nat.eq_of_beq_eq_true h.2.2.2
  rw [h.2.2.1]
  exact k9d_dc (by rw [hf, k9d_bd h0, hk, k9d_bd (h1 (by decide)), k9d_bd (k9d_s1 (h2 (by decide)))]; rfl)
/-- the bytes fit the instruction -/
def k9d_fit (b0 b1 b2 n : Nat) : Instr → Bool
  | .aconst_null => Nat.beq b0 1 && Nat.beq n 1
  | .iaload => Nat.beq b0 46 && Nat.beq n 1
  | .laload => Nat.beq b0 47 && Nat.beq n 1
  | .aaload => Nat.beq b0 50 && Nat.beq n 1
  | .iastore => Nat.beq b0 79 && Nat.beq n 1
  | .lastore => Nat.beq b0 80 && Nat.beq n 1
  | .pop => Nat.beq b0 87 && Nat.beq n 1
  | .pop2 => Nat.beq b0 88 && Nat.beq n 1
  | .dup => Nat.beq b0 89 && Nat.beq n 1
  | .dup_x1 => Nat.beq b0 90 && Nat.beq n 1
  | .dup_x2 => Nat.beq b0 91 && Nat.beq n 1
  | .dup2 => Nat.beq b0 92 && Nat.beq n 1
  | .iadd => Nat.beq b0 96 && Nat.beq n 1
  | .ladd => Nat.beq b0 97 && Nat.beq n 1
  | .isub => Nat.beq b0 100 && Nat.beq n 1
  | .imul => Nat.beq b0 104 && Nat.beq n 1
  | .lmul => Nat.beq b0 105 && Nat.beq n 1
  | .idiv => Nat.beq b0 108 && Nat.beq n 1
  | .irem => Nat.beq b0 112 && Nat.beq n 1
  | .ineg => Nat.beq b0 116 && Nat.beq n 1
  | .ishl => Nat.beq b0 120 && Nat.beq n 1
  | .lshl => Nat.beq b0 121 && Nat.beq n 1
  | .ishr => Nat.beq b0 122 && Nat.beq n 1
  | .iushr => Nat.beq b0 124 && Nat.beq n 1
  | .iand => Nat.beq b0 126 && Nat.beq n 1
  | .land => Nat.beq b0 127 && Nat.beq n 1
  | .ior => Nat.beq b0 128 && Nat.beq n 1
  | .lor => Nat.beq b0 129 && Nat.beq n 1
  | .ixor => Nat.beq b0 130 && Nat.beq n 1
  | .i2l => Nat.beq b0 133 && Nat.beq n 1
  | .l2i => Nat.beq b0 136 && Nat.beq n 1
  | .i2b => Nat.beq b0 145 && Nat.beq n 1
  | .i2s => Nat.beq b0 147 && Nat.beq n 1
  | .lcmp => Nat.beq b0 148 && Nat.beq n 1
  | .ireturn => Nat.beq b0 172 && Nat.beq n 1
  | .lreturn => Nat.beq b0 173 && Nat.beq n 1
  | .areturn => Nat.beq b0 176 && Nat.beq n 1
  | .return_ => Nat.beq b0 177 && Nat.beq n 1
  | .arraylength => Nat.beq b0 190 && Nat.beq n 1
  | .iload_n k => Nat.beq b0 (26 + k.val) && Nat.beq n 1
  | .lload_n k => Nat.beq b0 (30 + k.val) && Nat.beq n 1
  | .aload_n k => Nat.beq b0 (42 + k.val) && Nat.beq n 1
  | .istore_n k => Nat.beq b0 (59 + k.val) && Nat.beq n 1
  | .lstore_n k => Nat.beq b0 (63 + k.val) && Nat.beq n 1
  | .astore_n k => Nat.beq b0 (75 + k.val) && Nat.beq n 1
  | .lconst k => Nat.beq b0 (9 + k.val) && Nat.beq n 1
  | .iconst x => Nat.ble 2 b0 && (Nat.ble b0 8 && (decide (x = (b0 : Int) - 3) && Nat.beq n 1))
  | .ldc a => Nat.beq b0 18 && (Nat.beq a b1 && Nat.beq n 2)
  | .iload a => Nat.beq b0 21 && (Nat.beq a b1 && Nat.beq n 2)
  | .lload a => Nat.beq b0 22 && (Nat.beq a b1 && Nat.beq n 2)
  | .aload a => Nat.beq b0 25 && (Nat.beq a b1 && Nat.beq n 2)
  | .istore a => Nat.beq b0 54 && (Nat.beq a b1 && Nat.beq n 2)
  | .lstore a => Nat.beq b0 55 && (Nat.beq a b1 && Nat.beq n 2)
  | .astore a => Nat.beq b0 58 && (Nat.beq a b1 && Nat.beq n 2)
  | .bipush a => Nat.beq b0 16 && (decide (a = Jvm.ClassFile.Reader.signed 8 b1) && Nat.beq n 2)
  | .ldc_w a => Nat.beq b0 19 && (Nat.beq a (b1 * 256 + b2) && Nat.beq n 3)
  | .ldc2_w a => Nat.beq b0 20 && (Nat.beq a (b1 * 256 + b2) && Nat.beq n 3)
  | .getstatic a => Nat.beq b0 178 && (Nat.beq a (b1 * 256 + b2) && Nat.beq n 3)
  | .getfield a => Nat.beq b0 180 && (Nat.beq a (b1 * 256 + b2) && Nat.beq n 3)
  | .putfield a => Nat.beq b0 181 && (Nat.beq a (b1 * 256 + b2) && Nat.beq n 3)
  | .invokevirtual a => Nat.beq b0 182 && (Nat.beq a (b1 * 256 + b2) && Nat.beq n 3)
  | .invokestatic a => Nat.beq b0 184 && (Nat.beq a (b1 * 256 + b2) && Nat.beq n 3)
  | .sipush a => Nat.beq b0 17 && (decide (a = Jvm.ClassFile.Reader.signed 16 (b1 * 256 + b2)) && Nat.beq n 3)
  | .goto a => Nat.beq b0 167 && (decide (a = Jvm.ClassFile.Reader.signed 16 (b1 * 256 + b2)) && Nat.beq n 3)
  | .ifnull a => Nat.beq b0 198 && (decide (a = Jvm.ClassFile.Reader.signed 16 (b1 * 256 + b2)) && Nat.beq n 3)
  | .ifnonnull a => Nat.beq b0 199 && (decide (a = Jvm.ClassFile.Reader.signed 16 (b1 * 256 + b2)) && Nat.beq n 3)
  | .ifCond .eq a => Nat.beq b0 153 && (decide (a = Jvm.ClassFile.Reader.signed 16 (b1 * 256 + b2)) && Nat.beq n 3)
  | .ifCond .ne a => Nat.beq b0 154 && (decide (a = Jvm.ClassFile.Reader.signed 16 (b1 * 256 + b2)) && Nat.beq n 3)
  | .ifCond .lt a => Nat.beq b0 155 && (decide (a = Jvm.ClassFile.Reader.signed 16 (b1 * 256 + b2)) && Nat.beq n 3)
  | .ifCond .ge a => Nat.beq b0 156 && (decide (a = Jvm.ClassFile.Reader.signed 16 (b1 * 256 + b2)) && Nat.beq n 3)
  | .ifCond .gt a => Nat.beq b0 157 && (decide (a = Jvm.ClassFile.Reader.signed 16 (b1 * 256 + b2)) && Nat.beq n 3)
  | .ifCond .le a => Nat.beq b0 158 && (decide (a = Jvm.ClassFile.Reader.signed 16 (b1 * 256 + b2)) && Nat.beq n 3)
  | .if_icmp .eq a => Nat.beq b0 159 && (decide (a = Jvm.ClassFile.Reader.signed 16 (b1 * 256 + b2)) && Nat.beq n 3)
  | .if_icmp .ne a => Nat.beq b0 160 && (decide (a = Jvm.ClassFile.Reader.signed 16 (b1 * 256 + b2)) && Nat.beq n 3)
  | .if_icmp .lt a => Nat.beq b0 161 && (decide (a = Jvm.ClassFile.Reader.signed 16 (b1 * 256 + b2)) && Nat.beq n 3)
  | .if_icmp .ge a => Nat.beq b0 162 && (decide (a = Jvm.ClassFile.Reader.signed 16 (b1 * 256 + b2)) && Nat.beq n 3)
  | .if_icmp .gt a => Nat.beq b0 163 && (decide (a = Jvm.ClassFile.Reader.signed 16 (b1 * 256 + b2)) && Nat.beq n 3)
  | .if_icmp .le a => Nat.beq b0 164 && (decide (a = Jvm.ClassFile.Reader.signed 16 (b1 * 256 + b2)) && Nat.beq n 3)
  | .iinc a c => Nat.beq b0 132 && (Nat.beq a b1 && (decide (c = Jvm.ClassFile.Reader.signed 8 b2) && Nat.beq n 3))
  | _ => false
theorem k9d_fit_ok {code : ByteArray} {pc b0 b1 b2 n : Nat} (i : Instr) (h : k9d_fit b0 b1 b2 n i = true) (h0 : k9d_u1 code pc b0) (h1 : 2 ≤ n → k9d_u1 code (pc + 1) b1) (h2 : 3 ≤ n → k9d_u1 code (pc + 2) b2) : decode code pc = .ok (i, n) := by
  cases i
  case aconst_null => exact k9d_f1 1 h h0 rfl rfl
  case iaload => exact k9d_f1 46 h h0 rfl rfl
  case laload => exact k9d_f1 47 h h0 rfl rfl
  case aaload => exact k9d_f1 50 h h0 rfl rfl
  case iastore => exact k9d_f1 79 h h0 rfl rfl
  case lastore => exact k9d_f1 80 h h0 rfl rfl
  case pop => exact k9d_f1 87 h h0 rfl rfl
  case pop2 => exact k9d_f1 88 h h0 rfl rfl
  case dup => exact k9d_f1 89 h h0 rfl rfl
  case dup_x1 => exact k9d_f1 90 h h0 rfl rfl
  case dup_x2 => exact k9d_f1 91 h h0 rfl rfl
  case dup2 => exact k9d_f1 92 h h0 rfl rfl
  case iadd => exact k9d_f1 96 h h0 rfl rfl
  case ladd => exact k9d_f1 97 h h0 rfl rfl
  case isub => exact k9d_f1 100 h h0 rfl rfl
  case imul => exact k9d_f1 104 h h0 rfl rfl
  case lmul => exact k9d_f1 105 h h0 rfl rfl
  case idiv => exact k9d_f1 108 h h0 rfl rfl
  case irem => exact k9d_f1 112 h h0 rfl rfl
  case ineg => exact k9d_f1 116 h h0 rfl rfl
  case ishl => exact k9d_f1 120 h h0 rfl rfl
  case lshl => exact k9d_f1 121 h h0 rfl rfl
  case ishr => exact k9d_f1 122 h h0 rfl rfl
  case iushr => exact k9d_f1 124 h h0 rfl rfl
  case iand => exact k9d_f1 126 h h0 rfl rfl
  case land => exact k9d_f1 127 h h0 rfl rfl
  case ior => exact k9d_f1 128 h h0 rfl rfl
  case lor => exact k9d_f1 129 h h0 rfl rfl
  case ixor => exact k9d_f1 130 h h0 rfl rfl
  case i2l => exact k9d_f1 133 h h0 rfl rfl
  case l2i => exact k9d_f1 136 h h0 rfl rfl
  case i2b => exact k9d_f1 145 h h0 rfl rfl
  case i2s => exact k9d_f1 147 h h0 rfl rfl
  case lcmp => exact k9d_f1 148 h h0 rfl rfl
  case ireturn => exact k9d_f1 172 h h0 rfl rfl
  case lreturn => exact k9d_f1 173 h h0 rfl rfl
  case areturn => exact k9d_f1 176 h h0 rfl rfl
  case return_ => exact k9d_f1 177 h h0 rfl rfl
  case arraylength => exact k9d_f1 190 h h0 rfl rfl
  case iload_n k => exact match k, h with
    | ⟨0, _⟩, h => k9d_f1 26 h h0 rfl rfl
    | ⟨1, _⟩, h => k9d_f1 27 h h0 rfl rfl
    | ⟨2, _⟩, h => k9d_f1 28 h h0 rfl rfl
    | ⟨3, _⟩, h => k9d_f1 29 h h0 rfl rfl
    | ⟨j + 4, hj⟩, _ => absurd hj (by omega)
  case lload_n k => exact match k, h with
    | ⟨0, _⟩, h => k9d_f1 30 h h0 rfl rfl
    | ⟨1, _⟩, h => k9d_f1 31 h h0 rfl rfl
    | ⟨2, _⟩, h => k9d_f1 32 h h0 rfl rfl
    | ⟨3, _⟩, h => k9d_f1 33 h h0 rfl rfl
    | ⟨j + 4, hj⟩, _ => absurd hj (by omega)
  case aload_n k => exact match k, h with
    | ⟨0, _⟩, h => k9d_f1 42 h h0 rfl rfl
    | ⟨1, _⟩, h => k9d_f1 43 h h0 rfl rfl
    | ⟨2, _⟩, h => k9d_f1 44 h h0 rfl rfl
    | ⟨3, _⟩, h => k9d_f1 45 h h0 rfl rfl
    | ⟨j + 4, hj⟩, _ => absurd hj (by omega)
  case istore_n k => exact match k, h with
    | ⟨0, _⟩, h => k9d_f1 59 h h0 rfl rfl
    | ⟨1, _⟩, h => k9d_f1 60 h h0 rfl rfl
    | ⟨2, _⟩, h => k9d_f1 61 h h0 rfl rfl
    | ⟨3, _⟩, h => k9d_f1 62 h h0 rfl rfl
    | ⟨j + 4, hj⟩, _ => absurd hj (by omega)
  case lstore_n k => exact match k, h with
    | ⟨0, _⟩, h => k9d_f1 63 h h0 rfl rfl
    | ⟨1, _⟩, h => k9d_f1 64 h h0 rfl rfl
    | ⟨2, _⟩, h => k9d_f1 65 h h0 rfl rfl
    | ⟨3, _⟩, h => k9d_f1 66 h h0 rfl rfl
    | ⟨j + 4, hj⟩, _ => absurd hj (by omega)
  case astore_n k => exact match k, h with
    | ⟨0, _⟩, h => k9d_f1 75 h h0 rfl rfl
    | ⟨1, _⟩, h => k9d_f1 76 h h0 rfl rfl
    | ⟨2, _⟩, h => k9d_f1 77 h h0 rfl rfl
    | ⟨3, _⟩, h => k9d_f1 78 h h0 rfl rfl
    | ⟨j + 4, hj⟩, _ => absurd hj (by omega)
  case lconst k => exact match k, h with
    | ⟨0, _⟩, h => k9d_f1 9 h h0 rfl rfl
    | ⟨1, _⟩, h => k9d_f1 10 h h0 rfl rfl
    | ⟨j + 2, hj⟩, _ => absurd hj (by omega)
  case iconst x =>
    have h3 : (Nat.ble 2 b0 && (Nat.ble b0 8 && (decide (x = (b0 : Int) - 3) && Nat.beq n 1))) = true := h
    rw [Bool.and_eq_true, Bool.and_eq_true, Bool.and_eq_true, decide_eq_true_eq] at h3
    obtain ⟨g1, g2, g3, g4⟩ := h3
    have g5 := Nat.le_of_ble_eq_true g1
    have g6 := Nat.le_of_ble_eq_true g2
    clear h g1 g2
    have g7 : b0 = 2 ∨ b0 = 3 ∨ b0 = 4 ∨ b0 = 5 ∨ b0 = 6 ∨ b0 = 7 ∨ b0 = 8 := by omega
    rcases g7 with rfl | rfl | rfl | rfl | rfl | rfl | rfl
    · have g8 : x = (-1) := by omega
      subst g8
      exact k9d_f1 2 (by rw [g4]; rfl) h0 rfl rfl
    · have g8 : x = 0 := by omega
      subst g8
      exact k9d_f1 3 (by rw [g4]; rfl) h0 rfl rfl
    · have g8 : x = 1 := by omega
      subst g8
      exact k9d_f1 4 (by rw [g4]; rfl) h0 rfl rfl
    · have g8 : x = 2 := by omega
      subst g8
      exact k9d_f1 5 (by rw [g4]; rfl) h0 rfl rfl
    · have g8 : x = 3 := by omega
      subst g8
      exact k9d_f1 6 (by rw [g4]; rfl) h0 rfl rfl
    · have g8 : x = 4 := by omega
      subst g8
      exact k9d_f1 7 (by rw [g4]; rfl) h0 rfl rfl
    · have g8 : x = 5 := by omega
      subst g8
      exact k9d_f1 8 (by rw [g4]; rfl) h0 rfl rfl
  case ldc a => exact k9d_f2 18 h h0 h1 rfl rfl
  case iload a => exact k9d_f2 21 h h0 h1 rfl rfl
  case lload a => exact k9d_f2 22 h h0 h1 rfl rfl
  case aload a => exact k9d_f2 25 h h0 h1 rfl rfl
  case istore a => exact k9d_f2 54 h h0 h1 rfl rfl
  case lstore a => exact k9d_f2 55 h h0 h1 rfl rfl
  case astore a => exact k9d_f2 58 h h0 h1 rfl rfl
  case bipush a => exact k9d_f2s 16 h h0 h1 rfl rfl
  case ldc_w a => exact k9d_f3 19 h h0 h1 h2 rfl rfl
  case ldc2_w a => exact k9d_f3 20 h h0 h1 h2 rfl rfl
  case getstatic a => exact k9d_f3 178 h h0 h1 h2 rfl rfl
  case getfield a => exact k9d_f3 180 h h0 h1 h2 rfl rfl
  case putfield a => exact k9d_f3 181 h h0 h1 h2 rfl rfl
  case invokevirtual a => exact k9d_f3 182 h h0 h1 h2 rfl rfl
  case invokestatic a => exact k9d_f3 184 h h0 h1 h2 rfl rfl
  case sipush a => exact k9d_f4 17 h h0 h1 h2 rfl rfl
  case goto a => exact k9d_f4 167 h h0 h1 h2 rfl rfl
  case ifnull a => exact k9d_f4 198 h h0 h1 h2 rfl rfl
  case ifnonnull a => exact k9d_f4 199 h h0 h1 h2 rfl rfl
  case ifCond c a =>
    cases c
    case eq => exact k9d_f4 153 h h0 h1 h2 rfl rfl
    case ne => exact k9d_f4 154 h h0 h1 h2 rfl rfl
    case lt => exact k9d_f4 155 h h0 h1 h2 rfl rfl
    case ge => exact k9d_f4 156 h h0 h1 h2 rfl rfl
    case gt => exact k9d_f4 157 h h0 h1 h2 rfl rfl
    case le => exact k9d_f4 158 h h0 h1 h2 rfl rfl
  case if_icmp c a =>
    cases c
    case eq => exact k9d_f4 159 h h0 h1 h2 rfl rfl
    case ne => exact k9d_f4 160 h h0 h1 h2 rfl rfl
    case lt => exact k9d_f4 161 h h0 h1 h2 rfl rfl
    case ge => exact k9d_f4 162 h h0 h1 h2 rfl rfl
    case gt => exact k9d_f4 163 h h0 h1 h2 rfl rfl
    case le => exact k9d_f4 164 h h0 h1 h2 rfl rfl
  case iinc a c => exact k9d_f5 h h0 h1 h2 rfl rfl
  all_goals exact absurd (show false = true from h) Bool.false_ne_true
theorem k9d_at {code : ByteArray} {p : Nat} {b : UInt8} {bs : List UInt8} (h : code.data.toList.drop p = b :: bs) : k9d_u1 code p b.toNat ∧ code.data.toList.drop (p + 1) = bs := by
  obtain ⟨⟨l⟩⟩ := code
  have hd : l.drop p = b :: bs := h
  have hl : p < l.length := by
    apply Nat.lt_of_not_le
    intro hc
    rw [List.drop_eq_nil_of_le hc] at hd
    cases hd
  rw [List.drop_eq_getElem_cons hl] at hd
  have h1 := (List.cons.inj hd).1
  refine ⟨?_, (List.cons.inj hd).2⟩
  have hs : p < (ByteArray.mk (Array.mk l)).size := hl
  have e : Jvm.ClassFile.Reader.runAt (Jvm.ClassFile.Reader.u1 : Jvm.ClassFile.Decoder Nat) (ByteArray.mk (Array.mk l)) p = Jvm.ClassFile.Reader.runAt (if h : p < (ByteArray.mk (Array.mk l)).size then (do set (p + 1); Pure.pure ((ByteArray.mk (Array.mk l))[p]'h).toNat : Jvm.ClassFile.Decoder Nat) else throw (Jvm.ClassFile.HasTruncated.truncated p)) (ByteArray.mk (Array.mk l)) p := rfl
  show Jvm.ClassFile.Reader.runAt (Jvm.ClassFile.Reader.u1 : Jvm.ClassFile.Decoder Nat) (ByteArray.mk (Array.mk l)) p = _
  rw [e, dif_pos hs]
  show Except.ok ((l[p]'hl).toNat, p + 1) = Except.ok (b.toNat, p + 1)
  rw [h1]
def k9d_fb (bs : List UInt8) (r : Instr × Nat) : Bool :=
  match bs with
  | [] => false
  | [b0] => k9d_fit b0.toNat 0 0 r.2 r.1 && Nat.ble r.2 1
  | [b0, b1] => k9d_fit b0.toNat b1.toNat 0 r.2 r.1 && Nat.ble r.2 2
  | b0 :: b1 :: b2 :: _ => k9d_fit b0.toNat b1.toNat b2.toNat r.2 r.1
theorem k9d_fb_ok {code : ByteArray} {p : Nat} : ∀ (bs : List UInt8) (r : Instr × Nat), code.data.toList.drop p = bs → k9d_fb bs r = true → decode code p = .ok r
  | [], _, _, h => absurd (show false = true from h) Bool.false_ne_true
  | [b0], (i, n), hb, h => by
    have h' : (k9d_fit b0.toNat 0 0 n i && Nat.ble n 1) = true := h
    rw [Bool.and_eq_true] at h'
    have hn := Nat.le_of_ble_eq_true h'.2
    exact k9d_fit_ok i h'.1 (k9d_at hb).1 (fun hx => absurd hx (by omega)) (fun hx => absurd hx (by omega))
  | [b0, b1], (i, n), hb, h => by
    have h' : (k9d_fit b0.toNat b1.toNat 0 n i && Nat.ble n 2) = true := h
    rw [Bool.and_eq_true] at h'
    have hn := Nat.le_of_ble_eq_true h'.2
    exact k9d_fit_ok i h'.1 (k9d_at hb).1 (fun _ => (k9d_at (k9d_at hb).2).1) (fun hx => absurd hx (by omega))
  | b0 :: b1 :: b2 :: bs, (i, n), hb, h => k9d_fit_ok i h (k9d_at hb).1 (fun _ => (k9d_at (k9d_at hb).2).1) (fun _ => (k9d_at (k9d_at (k9d_at hb).2).2).1)
def k9d_hd : List k9_W → Nat
  | [] => 0
  | w :: _ => w.1
def k9d_chk (y : Nat) (B : ByteArray) (tp : Nat → Nat) : Nat → List UInt8 → List k9_N → List k9_W → Bool
  | 0, _, _, _ => true
  | _ + 1, _, [], _ => true
  | _ + 1, _, _ :: _, [] => false
  | m + 1, bs, q :: cs, w :: ws => (decide (q = (0, 0, 0, 0, 0)) || ((k9d_fb bs (k9_ins q w tp) || decide (decode B w.1 = .ok (k9_ins q w tp))) && ((!(k9_fal q) || Nat.beq (k9d_hd ws) (w.1 + (k9_ins q w tp).2)) && k9_sid y q w))) && ((List.isEmpty cs || Nat.ble w.1 (k9d_hd ws)) && k9d_chk y B tp m (bs.drop (k9d_hd ws - w.1)) cs ws)
theorem k9d_hd_n (ws : List k9_W) : k9d_hd ws = (k9_nth (0, 0, 0, 0) ws 0).1 := by cases ws <;> rfl
theorem k9d_chk_at {y : Nat} {B : ByteArray} {tp : Nat → Nat} : ∀ (m : Nat) (bs : List UInt8) (cs : List k9_N) (ws : List k9_W), k9d_chk y B tp m bs cs ws = true → (cs = [] ∨ B.data.toList.drop (k9d_hd ws) = bs) → ∀ ix, ix < m → k9_nth (0, 0, 0, 0, 0) cs ix ≠ (0, 0, 0, 0, 0) → decode B (k9_nth (0, 0, 0, 0) ws ix).1 = .ok (k9_ins (k9_nth (0, 0, 0, 0, 0) cs ix) (k9_nth (0, 0, 0, 0) ws ix) tp) ∧ ((!(k9_fal (k9_nth (0, 0, 0, 0, 0) cs ix)) || Nat.beq (k9_nth (0, 0, 0, 0) ws (ix + 1)).1 ((k9_nth (0, 0, 0, 0) ws ix).1 + (k9_ins (k9_nth (0, 0, 0, 0, 0) cs ix) (k9_nth (0, 0, 0, 0) ws ix) tp).2)) && k9_sid y (k9_nth (0, 0, 0, 0, 0) cs ix) (k9_nth (0, 0, 0, 0) ws ix)) = true := by
  intro m
  induction m with
  | zero => intro _ _ _ _ _ ix hix _; exact absurd hix (Nat.not_lt_zero ix)
  | succ m ih =>
    intro bs cs ws h hb ix hix hne
    cases cs with
    | nil => exact absurd (by cases ix <;> rfl) hne
    | cons q cs =>
      cases ws with
      | nil => exact absurd (show false = true from h) Bool.false_ne_true
      | cons w ws =>
        have hb' : B.data.toList.drop w.1 = bs := by
          rcases hb with hb | hb
          · cases hb
          · exact hb
        have h' : ((decide (q = (0, 0, 0, 0, 0)) || ((k9d_fb bs (k9_ins q w tp) || decide (decode B w.1 = .ok (k9_ins q w tp))) && ((!(k9_fal q) || Nat.beq (k9d_hd ws) (w.1 + (k9_ins q w tp).2)) && k9_sid y q w))) && ((List.isEmpty cs || Nat.ble w.1 (k9d_hd ws)) && k9d_chk y B tp m (bs.drop (k9d_hd ws - w.1)) cs ws)) = true := h
        rw [Bool.and_eq_true, Bool.and_eq_true] at h'
        obtain ⟨g1, g2, g3⟩ := h'
        cases ix with
        | zero =>
          rw [Bool.or_eq_true, decide_eq_true_eq, Bool.and_eq_true, Bool.or_eq_true, decide_eq_true_eq] at g1
          rcases g1 with g1 | ⟨g4, g5⟩
          · exact absurd g1 hne
          · refine ⟨?_, ?_⟩
            · rcases g4 with g4 | g4
              · exact k9d_fb_ok _ _ hb' g4
              · exact g4
            · rw [k9d_hd_n] at g5
              exact g5
        | succ ix =>
          refine ih _ cs ws g3 ?_ ix (Nat.lt_of_succ_lt_succ hix) hne
          rw [Bool.or_eq_true] at g2
          rcases g2 with g2 | g2
          · exact Or.inl (List.isEmpty_iff.mp g2)
          · have g6 := Nat.le_of_ble_eq_true g2
            right
            rw [← hb', List.drop_drop]
            congr 1
            omega
theorem k9d_nil {α : Type} (z : α) (n : Nat) : k9_nth z [] n = z := by cases n <;> rfl
theorem k9d_nd {α : Type} (z : α) : ∀ (k : Nat) (l : List α) (j : Nat), k9_nth z (l.drop k) j = k9_nth z l (k + j)
  | 0, l, j => by rw [List.drop_zero, Nat.zero_add]
  | k + 1, [], j => by rw [List.drop_nil, k9d_nil, k9d_nil]
  | k + 1, a :: l, j => by
    rw [List.drop_succ_cons, k9d_nd z k l j, show k + 1 + j = (k + j) + 1 from by omega]
    rfl
theorem k9d_ch {y m k pc : Nat} {B : ByteArray} {tp : Nat → Nat} {cs : List k9_N} {ws : List k9_W} (hB : k9_by y = B) (ht : k9_pc y = tp) (hc : k9_nth [] k9_codes y = cs) (hw : k9_nth [] k9_raws y = ws) (hp : Nat.beq (k9_nth (0, 0, 0, 0) ws k).1 pc = true) (h : k9d_chk y B tp m (B.data.toList.drop pc) (cs.drop k) (ws.drop k) = true) (ix : Nat) (h1 : k ≤ ix) (hne : k9_cod y ix ≠ (0, 0, 0, 0, 0)) (hr : k + m ≤ ix → k9_okP y ix) : k9_okP y ix := by
  by_cases h2 : ix < k + m
  · subst hB
    subst ht
    subst hc
    subst hw
    have h3 := k9d_chk_at m _ _ _ h (Or.inr (by rw [k9d_hd_n, k9d_nd, Nat.add_zero, Nat.eq_of_beq_eq_true hp])) (ix - k) (by omega)
    rw [k9d_nd, k9d_nd, k9d_nd, show k + (ix - k) = ix from by omega, show k + (ix - k + 1) = ix + 1 from by omega] at h3
    exact h3 hne
  · exact hr (by omega)
theorem k9_nth_end {α : Type} (z : α) : ∀ (l : List α) (n : Nat), l.length ≤ n → k9_nth z l n = z
  | [], n, _ => by cases n <;> rfl
  | _ :: _, 0, h => by cases h
  | _ :: l, n + 1, h => k9_nth_end z l n (Nat.le_of_succ_le_succ h)
theorem k9d_end {y n : Nat} {cs : List k9_N} (hc : k9_nth [] k9_codes y = cs) (hl : Nat.ble cs.length n = true) (ix : Nat) (h1 : n ≤ ix) (hne : k9_cod y ix ≠ (0, 0, 0, 0, 0)) : k9_okP y ix := by
  subst hc
  exact absurd (k9_nth_end _ _ _ (Nat.le_trans (Nat.le_of_ble_eq_true hl) h1)) hne
