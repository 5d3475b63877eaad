/-! a method's bytes as one number, and the instruction at a place of it -/
section DZ
variable {c : ByteArray} {pc p a b n N i x : Nat} {v : Int}
def bt (c : ByteArray) (p b : Nat) : Prop := ∃ h : p < c.size, (c[p]'h).toNat = b
def up : Nat → Nat → List Nat
  | _, 0 => []
  | N, n + 1 => N % 256 :: up (N / 256) n
theorem up_at : ∀ (n N i : Nat), i < n → (up N n)[i]? = some (N >>> (8 * i) % 256)
  | 0, _, _, h => absurd h (Nat.not_lt_zero _)
  | n + 1, N, 0, _ => rfl
  | n + 1, N, i + 1, h => by
    show (up (N / 256) n)[i]? = _
    rw [up_at n (N / 256) i (Nat.lt_of_succ_lt_succ h), Nat.shiftRight_eq_div_pow, Nat.shiftRight_eq_div_pow, Nat.div_div_eq_div_mul, show 8 * (i + 1) = 8 + 8 * i by omega, Nat.pow_add, show (2 : Nat) ^ 8 = 256 from rfl]
def Bts (c : ByteArray) (N n : Nat) : Prop := c.data.toList.map UInt8.toNat = up N n
theorem bt_at (h : Bts c N n) (hi : i < n) (e : N >>> (8 * i) % 256 = x) : bt c i x := by
  have h1 := up_at n N i hi
  have h' : c.data.toList.map UInt8.toNat = up N n := h
  rw [← h', List.getElem?_map] at h1
  obtain ⟨w, hw, e2⟩ := Option.map_eq_some_iff.mp h1
  obtain ⟨hl, e3⟩ := List.getElem?_eq_some_iff.mp hw
  refine ⟨(by show i < c.data.size; rw [← Array.length_toList]; exact hl), ?_⟩
  have e4 : (c[i]'(by show i < c.data.size; rw [← Array.length_toList]; exact hl)) = c.data.toList[i] := rfl
  rw [e4, e3, e2, e]
def o1 (N n pc x : Nat) : Bool := Nat.blt pc n && Nat.beq (N >>> (8 * pc) % 256) x
theorem b_1 (h : Bts c N n) (e : o1 N n pc x = true) : bt c pc x := by
  unfold o1 at e
  rw [Bool.and_eq_true] at e
  exact bt_at h (Nat.blt_eq.mp e.1) (Nat.eq_of_beq_eq_true e.2)
theorem b_2 (h : Bts c N n) (e : (o1 N n pc x && o1 N n (pc + 1) a) = true) : bt c pc x ∧ bt c (pc + 1) a := by
  rw [Bool.and_eq_true] at e
  exact ⟨b_1 h e.1, b_1 h e.2⟩
theorem b_3 (h : Bts c N n) (e : (o1 N n pc x && (o1 N n (pc + 1) a && o1 N n (pc + 2) b)) = true) : bt c pc x ∧ bt c (pc + 1) a ∧ bt c (pc + 2) b := by
  rw [Bool.and_eq_true, Bool.and_eq_true] at e
  exact ⟨b_1 h e.1, b_1 h e.2.1, b_1 h e.2.2⟩
theorem rd_u1 (h : bt c p b) : (ReaderT.run (Reader.u1 : Decoder Nat) c).run p = .ok (b, p + 1) := by
  obtain ⟨h1, h2⟩ := h
  subst h2
  have e : (ReaderT.run (Reader.u1 : Decoder Nat) c).run p = (ReaderT.run (if h : p < c.size then (do set (p + 1); pure (c[p]'h).toNat) else throw (HasTruncated.truncated p) : Decoder Nat) c).run p := rfl
  rw [e, dif_pos h1]
  rfl
theorem rd_bind {α β : Type} {m : Decoder α} {f : α → Decoder β} {w : α} {p q : Nat} (h : (ReaderT.run m c).run p = .ok (w, q)) : (ReaderT.run (m >>= f) c).run p = (ReaderT.run (f w) c).run q := by
  rw [ReaderT.run_bind, StateT.run_bind, h]
  rfl
theorem rd_map {α β : Type} {m : Decoder α} {f : α → β} {w : α} {p q : Nat} (h : (ReaderT.run m c).run p = .ok (w, q)) : (ReaderT.run (f <$> m) c).run p = .ok (f w, q) := by
  rw [ReaderT.run_map, StateT.run_map, h]
  rfl
theorem rd_u2 (h1 : bt c p a) (h2 : bt c (p + 1) b) : (ReaderT.run (Reader.u2 : Decoder Nat) c).run p = .ok (a * 256 + b, p + 2) := by
  unfold Reader.u2
  rw [rd_bind (rd_u1 h1), rd_bind (rd_u1 h2)]
  rfl
theorem rd_s1 (h : bt c p b) : (ReaderT.run (Reader.s1 : Decoder Int) c).run p = .ok (Reader.signed 8 b, p + 1) := rd_map (rd_u1 h)
theorem rd_s2 (h1 : bt c p a) (h2 : bt c (p + 1) b) : (ReaderT.run (Reader.s2 : Decoder Int) c).run p = .ok (Reader.signed 16 (a * 256 + b), p + 2) := rd_map (rd_u2 h1 h2)
theorem dec_of {q : Instr} (e : (ReaderT.run (Decoder.instr pc) c).run pc = .ok (q, pc + n)) : decode c pc = .ok (q, n) := by
  unfold decode Reader.runAt
  rw [e]
  show Except.ok (q, pc + n - pc) = _
  rw [Nat.add_sub_cancel_left]
theorem dz_1 (h : bt c pc 1) : decode c pc = .ok (.aconst_null, 1) := dec_of (n := 1) (by unfold Decoder.instr; rw [rd_bind (rd_u1 h)]; rfl)
theorem dz_2 (h : bt c pc 2) : decode c pc = .ok (.iconst (-1), 1) := dec_of (n := 1) (by unfold Decoder.instr; rw [rd_bind (rd_u1 h)]; rfl)
theorem dz_3 (h : bt c pc 3) : decode c pc = .ok (.iconst 0, 1) := dec_of (n := 1) (by unfold Decoder.instr; rw [rd_bind (rd_u1 h)]; rfl)
theorem dz_4 (h : bt c pc 4) : decode c pc = .ok (.iconst 1, 1) := dec_of (n := 1) (by unfold Decoder.instr; rw [rd_bind (rd_u1 h)]; rfl)
theorem dz_5 (h : bt c pc 5) : decode c pc = .ok (.iconst 2, 1) := dec_of (n := 1) (by unfold Decoder.instr; rw [rd_bind (rd_u1 h)]; rfl)
theorem dz_6 (h : bt c pc 6) : decode c pc = .ok (.iconst 3, 1) := dec_of (n := 1) (by unfold Decoder.instr; rw [rd_bind (rd_u1 h)]; rfl)
theorem dz_7 (h : bt c pc 7) : decode c pc = .ok (.iconst 4, 1) := dec_of (n := 1) (by unfold Decoder.instr; rw [rd_bind (rd_u1 h)]; rfl)
theorem dz_8 (h : bt c pc 8) : decode c pc = .ok (.iconst 5, 1) := dec_of (n := 1) (by unfold Decoder.instr; rw [rd_bind (rd_u1 h)]; rfl)
theorem dz_9 (h : bt c pc 9) : decode c pc = .ok (.lconst 0, 1) := dec_of (n := 1) (by unfold Decoder.instr; rw [rd_bind (rd_u1 h)]; rfl)
theorem dz_16 (h : bt c pc 16 ∧ bt c (pc + 1) a) (e : Reader.signed 8 a = v) : decode c pc = .ok (.bipush v, 2) := dec_of (n := 2) (by unfold Decoder.instr; rw [rd_bind (rd_u1 h.1)]; show (ReaderT.run (Reader.s1 >>= fun k => pure (.bipush k) : Decoder Instr) c).run (pc + 1) = _; rw [rd_bind (rd_s1 h.2), e]; rfl)
theorem dz_17 (h : bt c pc 17 ∧ bt c (pc + 1) a ∧ bt c (pc + 2) b) (e : Reader.signed 16 (a * 256 + b) = v) : decode c pc = .ok (.sipush v, 3) := dec_of (n := 3) (by unfold Decoder.instr; rw [rd_bind (rd_u1 h.1)]; show (ReaderT.run (Reader.s2 >>= fun k => pure (.sipush k) : Decoder Instr) c).run (pc + 1) = _; rw [rd_bind (rd_s2 h.2.1 h.2.2), e]; rfl)
theorem dz_18 (h : bt c pc 18 ∧ bt c (pc + 1) a) : decode c pc = .ok (.ldc a, 2) := dec_of (n := 2) (by unfold Decoder.instr; rw [rd_bind (rd_u1 h.1)]; show (ReaderT.run (Reader.u1 >>= fun k => pure (.ldc k) : Decoder Instr) c).run (pc + 1) = _; rw [rd_bind (rd_u1 h.2)]; rfl)
theorem dz_20 (h : bt c pc 20 ∧ bt c (pc + 1) a ∧ bt c (pc + 2) b) : decode c pc = .ok (.ldc2_w (a * 256 + b), 3) := dec_of (n := 3) (by unfold Decoder.instr; rw [rd_bind (rd_u1 h.1)]; show (ReaderT.run (Reader.u2 >>= fun k => pure (.ldc2_w k) : Decoder Instr) c).run (pc + 1) = _; rw [rd_bind (rd_u2 h.2.1 h.2.2)]; rfl)
theorem dz_21 (h : bt c pc 21 ∧ bt c (pc + 1) a) : decode c pc = .ok (.iload a, 2) := dec_of (n := 2) (by unfold Decoder.instr; rw [rd_bind (rd_u1 h.1)]; show (ReaderT.run (Reader.u1 >>= fun k => pure (.iload k) : Decoder Instr) c).run (pc + 1) = _; rw [rd_bind (rd_u1 h.2)]; rfl)
theorem dz_22 (h : bt c pc 22 ∧ bt c (pc + 1) a) : decode c pc = .ok (.lload a, 2) := dec_of (n := 2) (by unfold Decoder.instr; rw [rd_bind (rd_u1 h.1)]; show (ReaderT.run (Reader.u1 >>= fun k => pure (.lload k) : Decoder Instr) c).run (pc + 1) = _; rw [rd_bind (rd_u1 h.2)]; rfl)
theorem dz_25 (h : bt c pc 25 ∧ bt c (pc + 1) a) : decode c pc = .ok (.aload a, 2) := dec_of (n := 2) (by unfold Decoder.instr; rw [rd_bind (rd_u1 h.1)]; show (ReaderT.run (Reader.u1 >>= fun k => pure (.aload k) : Decoder Instr) c).run (pc + 1) = _; rw [rd_bind (rd_u1 h.2)]; rfl)
theorem dz_26 (h : bt c pc 26) : decode c pc = .ok (.iload_n 0, 1) := dec_of (n := 1) (by unfold Decoder.instr; rw [rd_bind (rd_u1 h)]; rfl)
theorem dz_27 (h : bt c pc 27) : decode c pc = .ok (.iload_n 1, 1) := dec_of (n := 1) (by unfold Decoder.instr; rw [rd_bind (rd_u1 h)]; rfl)
theorem dz_28 (h : bt c pc 28) : decode c pc = .ok (.iload_n 2, 1) := dec_of (n := 1) (by unfold Decoder.instr; rw [rd_bind (rd_u1 h)]; rfl)
theorem dz_29 (h : bt c pc 29) : decode c pc = .ok (.iload_n 3, 1) := dec_of (n := 1) (by unfold Decoder.instr; rw [rd_bind (rd_u1 h)]; rfl)
theorem dz_30 (h : bt c pc 30) : decode c pc = .ok (.lload_n 0, 1) := dec_of (n := 1) (by unfold Decoder.instr; rw [rd_bind (rd_u1 h)]; rfl)
theorem dz_31 (h : bt c pc 31) : decode c pc = .ok (.lload_n 1, 1) := dec_of (n := 1) (by unfold Decoder.instr; rw [rd_bind (rd_u1 h)]; rfl)
theorem dz_32 (h : bt c pc 32) : decode c pc = .ok (.lload_n 2, 1) := dec_of (n := 1) (by unfold Decoder.instr; rw [rd_bind (rd_u1 h)]; rfl)
theorem dz_33 (h : bt c pc 33) : decode c pc = .ok (.lload_n 3, 1) := dec_of (n := 1) (by unfold Decoder.instr; rw [rd_bind (rd_u1 h)]; rfl)
theorem dz_42 (h : bt c pc 42) : decode c pc = .ok (.aload_n 0, 1) := dec_of (n := 1) (by unfold Decoder.instr; rw [rd_bind (rd_u1 h)]; rfl)
theorem dz_43 (h : bt c pc 43) : decode c pc = .ok (.aload_n 1, 1) := dec_of (n := 1) (by unfold Decoder.instr; rw [rd_bind (rd_u1 h)]; rfl)
theorem dz_44 (h : bt c pc 44) : decode c pc = .ok (.aload_n 2, 1) := dec_of (n := 1) (by unfold Decoder.instr; rw [rd_bind (rd_u1 h)]; rfl)
theorem dz_45 (h : bt c pc 45) : decode c pc = .ok (.aload_n 3, 1) := dec_of (n := 1) (by unfold Decoder.instr; rw [rd_bind (rd_u1 h)]; rfl)
theorem dz_46 (h : bt c pc 46) : decode c pc = .ok (.iaload, 1) := dec_of (n := 1) (by unfold Decoder.instr; rw [rd_bind (rd_u1 h)]; rfl)
theorem dz_47 (h : bt c pc 47) : decode c pc = .ok (.laload, 1) := dec_of (n := 1) (by unfold Decoder.instr; rw [rd_bind (rd_u1 h)]; rfl)
theorem dz_50 (h : bt c pc 50) : decode c pc = .ok (.aaload, 1) := dec_of (n := 1) (by unfold Decoder.instr; rw [rd_bind (rd_u1 h)]; rfl)
theorem dz_51 (h : bt c pc 51) : decode c pc = .ok (.baload, 1) := dec_of (n := 1) (by unfold Decoder.instr; rw [rd_bind (rd_u1 h)]; rfl)
theorem dz_54 (h : bt c pc 54 ∧ bt c (pc + 1) a) : decode c pc = .ok (.istore a, 2) := dec_of (n := 2) (by unfold Decoder.instr; rw [rd_bind (rd_u1 h.1)]; show (ReaderT.run (Reader.u1 >>= fun k => pure (.istore k) : Decoder Instr) c).run (pc + 1) = _; rw [rd_bind (rd_u1 h.2)]; rfl)
theorem dz_55 (h : bt c pc 55 ∧ bt c (pc + 1) a) : decode c pc = .ok (.lstore a, 2) := dec_of (n := 2) (by unfold Decoder.instr; rw [rd_bind (rd_u1 h.1)]; show (ReaderT.run (Reader.u1 >>= fun k => pure (.lstore k) : Decoder Instr) c).run (pc + 1) = _; rw [rd_bind (rd_u1 h.2)]; rfl)
theorem dz_58 (h : bt c pc 58 ∧ bt c (pc + 1) a) : decode c pc = .ok (.astore a, 2) := dec_of (n := 2) (by unfold Decoder.instr; rw [rd_bind (rd_u1 h.1)]; show (ReaderT.run (Reader.u1 >>= fun k => pure (.astore k) : Decoder Instr) c).run (pc + 1) = _; rw [rd_bind (rd_u1 h.2)]; rfl)
theorem dz_60 (h : bt c pc 60) : decode c pc = .ok (.istore_n 1, 1) := dec_of (n := 1) (by unfold Decoder.instr; rw [rd_bind (rd_u1 h)]; rfl)
theorem dz_61 (h : bt c pc 61) : decode c pc = .ok (.istore_n 2, 1) := dec_of (n := 1) (by unfold Decoder.instr; rw [rd_bind (rd_u1 h)]; rfl)
theorem dz_62 (h : bt c pc 62) : decode c pc = .ok (.istore_n 3, 1) := dec_of (n := 1) (by unfold Decoder.instr; rw [rd_bind (rd_u1 h)]; rfl)
theorem dz_65 (h : bt c pc 65) : decode c pc = .ok (.lstore_n 2, 1) := dec_of (n := 1) (by unfold Decoder.instr; rw [rd_bind (rd_u1 h)]; rfl)
theorem dz_66 (h : bt c pc 66) : decode c pc = .ok (.lstore_n 3, 1) := dec_of (n := 1) (by unfold Decoder.instr; rw [rd_bind (rd_u1 h)]; rfl)
theorem dz_76 (h : bt c pc 76) : decode c pc = .ok (.astore_n 1, 1) := dec_of (n := 1) (by unfold Decoder.instr; rw [rd_bind (rd_u1 h)]; rfl)
theorem dz_77 (h : bt c pc 77) : decode c pc = .ok (.astore_n 2, 1) := dec_of (n := 1) (by unfold Decoder.instr; rw [rd_bind (rd_u1 h)]; rfl)
theorem dz_78 (h : bt c pc 78) : decode c pc = .ok (.astore_n 3, 1) := dec_of (n := 1) (by unfold Decoder.instr; rw [rd_bind (rd_u1 h)]; rfl)
theorem dz_79 (h : bt c pc 79) : decode c pc = .ok (.iastore, 1) := dec_of (n := 1) (by unfold Decoder.instr; rw [rd_bind (rd_u1 h)]; rfl)
theorem dz_80 (h : bt c pc 80) : decode c pc = .ok (.lastore, 1) := dec_of (n := 1) (by unfold Decoder.instr; rw [rd_bind (rd_u1 h)]; rfl)
theorem dz_83 (h : bt c pc 83) : decode c pc = .ok (.aastore, 1) := dec_of (n := 1) (by unfold Decoder.instr; rw [rd_bind (rd_u1 h)]; rfl)
theorem dz_84 (h : bt c pc 84) : decode c pc = .ok (.bastore, 1) := dec_of (n := 1) (by unfold Decoder.instr; rw [rd_bind (rd_u1 h)]; rfl)
theorem dz_87 (h : bt c pc 87) : decode c pc = .ok (.pop, 1) := dec_of (n := 1) (by unfold Decoder.instr; rw [rd_bind (rd_u1 h)]; rfl)
theorem dz_89 (h : bt c pc 89) : decode c pc = .ok (.dup, 1) := dec_of (n := 1) (by unfold Decoder.instr; rw [rd_bind (rd_u1 h)]; rfl)
theorem dz_92 (h : bt c pc 92) : decode c pc = .ok (.dup2, 1) := dec_of (n := 1) (by unfold Decoder.instr; rw [rd_bind (rd_u1 h)]; rfl)
theorem dz_96 (h : bt c pc 96) : decode c pc = .ok (.iadd, 1) := dec_of (n := 1) (by unfold Decoder.instr; rw [rd_bind (rd_u1 h)]; rfl)
theorem dz_97 (h : bt c pc 97) : decode c pc = .ok (.ladd, 1) := dec_of (n := 1) (by unfold Decoder.instr; rw [rd_bind (rd_u1 h)]; rfl)
theorem dz_100 (h : bt c pc 100) : decode c pc = .ok (.isub, 1) := dec_of (n := 1) (by unfold Decoder.instr; rw [rd_bind (rd_u1 h)]; rfl)
theorem dz_104 (h : bt c pc 104) : decode c pc = .ok (.imul, 1) := dec_of (n := 1) (by unfold Decoder.instr; rw [rd_bind (rd_u1 h)]; rfl)
theorem dz_108 (h : bt c pc 108) : decode c pc = .ok (.idiv, 1) := dec_of (n := 1) (by unfold Decoder.instr; rw [rd_bind (rd_u1 h)]; rfl)
theorem dz_121 (h : bt c pc 121) : decode c pc = .ok (.lshl, 1) := dec_of (n := 1) (by unfold Decoder.instr; rw [rd_bind (rd_u1 h)]; rfl)
theorem dz_126 (h : bt c pc 126) : decode c pc = .ok (.iand, 1) := dec_of (n := 1) (by unfold Decoder.instr; rw [rd_bind (rd_u1 h)]; rfl)
theorem dz_127 (h : bt c pc 127) : decode c pc = .ok (.land, 1) := dec_of (n := 1) (by unfold Decoder.instr; rw [rd_bind (rd_u1 h)]; rfl)
theorem dz_129 (h : bt c pc 129) : decode c pc = .ok (.lor, 1) := dec_of (n := 1) (by unfold Decoder.instr; rw [rd_bind (rd_u1 h)]; rfl)
theorem dz_132 (h : bt c pc 132 ∧ bt c (pc + 1) a ∧ bt c (pc + 2) b) (e : Reader.signed 8 b = v) : decode c pc = .ok (.iinc a v, 3) := dec_of (n := 3) (by unfold Decoder.instr; rw [rd_bind (rd_u1 h.1)]; show (ReaderT.run (Reader.u1 >>= fun k => Reader.s1 >>= fun q => pure (.iinc k q) : Decoder Instr) c).run (pc + 1) = _; rw [rd_bind (rd_u1 h.2.1), rd_bind (rd_s1 h.2.2), e]; rfl)
theorem dz_133 (h : bt c pc 133) : decode c pc = .ok (.i2l, 1) := dec_of (n := 1) (by unfold Decoder.instr; rw [rd_bind (rd_u1 h)]; rfl)
theorem dz_136 (h : bt c pc 136) : decode c pc = .ok (.l2i, 1) := dec_of (n := 1) (by unfold Decoder.instr; rw [rd_bind (rd_u1 h)]; rfl)
theorem dz_145 (h : bt c pc 145) : decode c pc = .ok (.i2b, 1) := dec_of (n := 1) (by unfold Decoder.instr; rw [rd_bind (rd_u1 h)]; rfl)
theorem dz_148 (h : bt c pc 148) : decode c pc = .ok (.lcmp, 1) := dec_of (n := 1) (by unfold Decoder.instr; rw [rd_bind (rd_u1 h)]; rfl)
theorem dz_153 (h : bt c pc 153 ∧ bt c (pc + 1) a ∧ bt c (pc + 2) b) (e : Reader.signed 16 (a * 256 + b) = v) : decode c pc = .ok (.ifCond .eq v, 3) := dec_of (n := 3) (by unfold Decoder.instr; rw [rd_bind (rd_u1 h.1)]; show (ReaderT.run (Reader.s2 >>= fun k => pure (.ifCond .eq k) : Decoder Instr) c).run (pc + 1) = _; rw [rd_bind (rd_s2 h.2.1 h.2.2), e]; rfl)
theorem dz_154 (h : bt c pc 154 ∧ bt c (pc + 1) a ∧ bt c (pc + 2) b) (e : Reader.signed 16 (a * 256 + b) = v) : decode c pc = .ok (.ifCond .ne v, 3) := dec_of (n := 3) (by unfold Decoder.instr; rw [rd_bind (rd_u1 h.1)]; show (ReaderT.run (Reader.s2 >>= fun k => pure (.ifCond .ne k) : Decoder Instr) c).run (pc + 1) = _; rw [rd_bind (rd_s2 h.2.1 h.2.2), e]; rfl)
theorem dz_155 (h : bt c pc 155 ∧ bt c (pc + 1) a ∧ bt c (pc + 2) b) (e : Reader.signed 16 (a * 256 + b) = v) : decode c pc = .ok (.ifCond .lt v, 3) := dec_of (n := 3) (by unfold Decoder.instr; rw [rd_bind (rd_u1 h.1)]; show (ReaderT.run (Reader.s2 >>= fun k => pure (.ifCond .lt k) : Decoder Instr) c).run (pc + 1) = _; rw [rd_bind (rd_s2 h.2.1 h.2.2), e]; rfl)
theorem dz_156 (h : bt c pc 156 ∧ bt c (pc + 1) a ∧ bt c (pc + 2) b) (e : Reader.signed 16 (a * 256 + b) = v) : decode c pc = .ok (.ifCond .ge v, 3) := dec_of (n := 3) (by unfold Decoder.instr; rw [rd_bind (rd_u1 h.1)]; show (ReaderT.run (Reader.s2 >>= fun k => pure (.ifCond .ge k) : Decoder Instr) c).run (pc + 1) = _; rw [rd_bind (rd_s2 h.2.1 h.2.2), e]; rfl)
theorem dz_157 (h : bt c pc 157 ∧ bt c (pc + 1) a ∧ bt c (pc + 2) b) (e : Reader.signed 16 (a * 256 + b) = v) : decode c pc = .ok (.ifCond .gt v, 3) := dec_of (n := 3) (by unfold Decoder.instr; rw [rd_bind (rd_u1 h.1)]; show (ReaderT.run (Reader.s2 >>= fun k => pure (.ifCond .gt k) : Decoder Instr) c).run (pc + 1) = _; rw [rd_bind (rd_s2 h.2.1 h.2.2), e]; rfl)
theorem dz_158 (h : bt c pc 158 ∧ bt c (pc + 1) a ∧ bt c (pc + 2) b) (e : Reader.signed 16 (a * 256 + b) = v) : decode c pc = .ok (.ifCond .le v, 3) := dec_of (n := 3) (by unfold Decoder.instr; rw [rd_bind (rd_u1 h.1)]; show (ReaderT.run (Reader.s2 >>= fun k => pure (.ifCond .le k) : Decoder Instr) c).run (pc + 1) = _; rw [rd_bind (rd_s2 h.2.1 h.2.2), e]; rfl)
theorem dz_159 (h : bt c pc 159 ∧ bt c (pc + 1) a ∧ bt c (pc + 2) b) (e : Reader.signed 16 (a * 256 + b) = v) : decode c pc = .ok (.if_icmp .eq v, 3) := dec_of (n := 3) (by unfold Decoder.instr; rw [rd_bind (rd_u1 h.1)]; show (ReaderT.run (Reader.s2 >>= fun k => pure (.if_icmp .eq k) : Decoder Instr) c).run (pc + 1) = _; rw [rd_bind (rd_s2 h.2.1 h.2.2), e]; rfl)
theorem dz_160 (h : bt c pc 160 ∧ bt c (pc + 1) a ∧ bt c (pc + 2) b) (e : Reader.signed 16 (a * 256 + b) = v) : decode c pc = .ok (.if_icmp .ne v, 3) := dec_of (n := 3) (by unfold Decoder.instr; rw [rd_bind (rd_u1 h.1)]; show (ReaderT.run (Reader.s2 >>= fun k => pure (.if_icmp .ne k) : Decoder Instr) c).run (pc + 1) = _; rw [rd_bind (rd_s2 h.2.1 h.2.2), e]; rfl)
theorem dz_161 (h : bt c pc 161 ∧ bt c (pc + 1) a ∧ bt c (pc + 2) b) (e : Reader.signed 16 (a * 256 + b) = v) : decode c pc = .ok (.if_icmp .lt v, 3) := dec_of (n := 3) (by unfold Decoder.instr; rw [rd_bind (rd_u1 h.1)]; show (ReaderT.run (Reader.s2 >>= fun k => pure (.if_icmp .lt k) : Decoder Instr) c).run (pc + 1) = _; rw [rd_bind (rd_s2 h.2.1 h.2.2), e]; rfl)
theorem dz_162 (h : bt c pc 162 ∧ bt c (pc + 1) a ∧ bt c (pc + 2) b) (e : Reader.signed 16 (a * 256 + b) = v) : decode c pc = .ok (.if_icmp .ge v, 3) := dec_of (n := 3) (by unfold Decoder.instr; rw [rd_bind (rd_u1 h.1)]; show (ReaderT.run (Reader.s2 >>= fun k => pure (.if_icmp .ge k) : Decoder Instr) c).run (pc + 1) = _; rw [rd_bind (rd_s2 h.2.1 h.2.2), e]; rfl)
theorem dz_163 (h : bt c pc 163 ∧ bt c (pc + 1) a ∧ bt c (pc + 2) b) (e : Reader.signed 16 (a * 256 + b) = v) : decode c pc = .ok (.if_icmp .gt v, 3) := dec_of (n := 3) (by unfold Decoder.instr; rw [rd_bind (rd_u1 h.1)]; show (ReaderT.run (Reader.s2 >>= fun k => pure (.if_icmp .gt k) : Decoder Instr) c).run (pc + 1) = _; rw [rd_bind (rd_s2 h.2.1 h.2.2), e]; rfl)
theorem dz_164 (h : bt c pc 164 ∧ bt c (pc + 1) a ∧ bt c (pc + 2) b) (e : Reader.signed 16 (a * 256 + b) = v) : decode c pc = .ok (.if_icmp .le v, 3) := dec_of (n := 3) (by unfold Decoder.instr; rw [rd_bind (rd_u1 h.1)]; show (ReaderT.run (Reader.s2 >>= fun k => pure (.if_icmp .le k) : Decoder Instr) c).run (pc + 1) = _; rw [rd_bind (rd_s2 h.2.1 h.2.2), e]; rfl)
theorem dz_166 (h : bt c pc 166 ∧ bt c (pc + 1) a ∧ bt c (pc + 2) b) (e : Reader.signed 16 (a * 256 + b) = v) : decode c pc = .ok (.if_acmp .ne v, 3) := dec_of (n := 3) (by unfold Decoder.instr; rw [rd_bind (rd_u1 h.1)]; show (ReaderT.run (Reader.s2 >>= fun k => pure (.if_acmp .ne k) : Decoder Instr) c).run (pc + 1) = _; rw [rd_bind (rd_s2 h.2.1 h.2.2), e]; rfl)
theorem dz_167 (h : bt c pc 167 ∧ bt c (pc + 1) a ∧ bt c (pc + 2) b) (e : Reader.signed 16 (a * 256 + b) = v) : decode c pc = .ok (.goto v, 3) := dec_of (n := 3) (by unfold Decoder.instr; rw [rd_bind (rd_u1 h.1)]; show (ReaderT.run (Reader.s2 >>= fun k => pure (.goto k) : Decoder Instr) c).run (pc + 1) = _; rw [rd_bind (rd_s2 h.2.1 h.2.2), e]; rfl)
theorem dz_172 (h : bt c pc 172) : decode c pc = .ok (.ireturn, 1) := dec_of (n := 1) (by unfold Decoder.instr; rw [rd_bind (rd_u1 h)]; rfl)
theorem dz_173 (h : bt c pc 173) : decode c pc = .ok (.lreturn, 1) := dec_of (n := 1) (by unfold Decoder.instr; rw [rd_bind (rd_u1 h)]; rfl)
theorem dz_176 (h : bt c pc 176) : decode c pc = .ok (.areturn, 1) := dec_of (n := 1) (by unfold Decoder.instr; rw [rd_bind (rd_u1 h)]; rfl)
theorem dz_177 (h : bt c pc 177) : decode c pc = .ok (.return_, 1) := dec_of (n := 1) (by unfold Decoder.instr; rw [rd_bind (rd_u1 h)]; rfl)
theorem dz_180 (h : bt c pc 180 ∧ bt c (pc + 1) a ∧ bt c (pc + 2) b) : decode c pc = .ok (.getfield (a * 256 + b), 3) := dec_of (n := 3) (by unfold Decoder.instr; rw [rd_bind (rd_u1 h.1)]; show (ReaderT.run (Reader.u2 >>= fun k => pure (.getfield k) : Decoder Instr) c).run (pc + 1) = _; rw [rd_bind (rd_u2 h.2.1 h.2.2)]; rfl)
theorem dz_181 (h : bt c pc 181 ∧ bt c (pc + 1) a ∧ bt c (pc + 2) b) : decode c pc = .ok (.putfield (a * 256 + b), 3) := dec_of (n := 3) (by unfold Decoder.instr; rw [rd_bind (rd_u1 h.1)]; show (ReaderT.run (Reader.u2 >>= fun k => pure (.putfield k) : Decoder Instr) c).run (pc + 1) = _; rw [rd_bind (rd_u2 h.2.1 h.2.2)]; rfl)
theorem dz_182 (h : bt c pc 182 ∧ bt c (pc + 1) a ∧ bt c (pc + 2) b) : decode c pc = .ok (.invokevirtual (a * 256 + b), 3) := dec_of (n := 3) (by unfold Decoder.instr; rw [rd_bind (rd_u1 h.1)]; show (ReaderT.run (Reader.u2 >>= fun k => pure (.invokevirtual k) : Decoder Instr) c).run (pc + 1) = _; rw [rd_bind (rd_u2 h.2.1 h.2.2)]; rfl)
theorem dz_183 (h : bt c pc 183 ∧ bt c (pc + 1) a ∧ bt c (pc + 2) b) : decode c pc = .ok (.invokespecial (a * 256 + b), 3) := dec_of (n := 3) (by unfold Decoder.instr; rw [rd_bind (rd_u1 h.1)]; show (ReaderT.run (Reader.u2 >>= fun k => pure (.invokespecial k) : Decoder Instr) c).run (pc + 1) = _; rw [rd_bind (rd_u2 h.2.1 h.2.2)]; rfl)
theorem dz_184 (h : bt c pc 184 ∧ bt c (pc + 1) a ∧ bt c (pc + 2) b) : decode c pc = .ok (.invokestatic (a * 256 + b), 3) := dec_of (n := 3) (by unfold Decoder.instr; rw [rd_bind (rd_u1 h.1)]; show (ReaderT.run (Reader.u2 >>= fun k => pure (.invokestatic k) : Decoder Instr) c).run (pc + 1) = _; rw [rd_bind (rd_u2 h.2.1 h.2.2)]; rfl)
theorem dz_187 (h : bt c pc 187 ∧ bt c (pc + 1) a ∧ bt c (pc + 2) b) : decode c pc = .ok (.new (a * 256 + b), 3) := dec_of (n := 3) (by unfold Decoder.instr; rw [rd_bind (rd_u1 h.1)]; show (ReaderT.run (Reader.u2 >>= fun k => pure (.new k) : Decoder Instr) c).run (pc + 1) = _; rw [rd_bind (rd_u2 h.2.1 h.2.2)]; rfl)
theorem dz_189 (h : bt c pc 189 ∧ bt c (pc + 1) a ∧ bt c (pc + 2) b) : decode c pc = .ok (.anewarray (a * 256 + b), 3) := dec_of (n := 3) (by unfold Decoder.instr; rw [rd_bind (rd_u1 h.1)]; show (ReaderT.run (Reader.u2 >>= fun k => pure (.anewarray k) : Decoder Instr) c).run (pc + 1) = _; rw [rd_bind (rd_u2 h.2.1 h.2.2)]; rfl)
theorem dz_190 (h : bt c pc 190) : decode c pc = .ok (.arraylength, 1) := dec_of (n := 1) (by unfold Decoder.instr; rw [rd_bind (rd_u1 h)]; rfl)
theorem dz_191 (h : bt c pc 191) : decode c pc = .ok (.athrow, 1) := dec_of (n := 1) (by unfold Decoder.instr; rw [rd_bind (rd_u1 h)]; rfl)
theorem dz_198 (h : bt c pc 198 ∧ bt c (pc + 1) a ∧ bt c (pc + 2) b) (e : Reader.signed 16 (a * 256 + b) = v) : decode c pc = .ok (.ifnull v, 3) := dec_of (n := 3) (by unfold Decoder.instr; rw [rd_bind (rd_u1 h.1)]; show (ReaderT.run (Reader.s2 >>= fun k => pure (.ifnull k) : Decoder Instr) c).run (pc + 1) = _; rw [rd_bind (rd_s2 h.2.1 h.2.2), e]; rfl)
theorem dz_199 (h : bt c pc 199 ∧ bt c (pc + 1) a ∧ bt c (pc + 2) b) (e : Reader.signed 16 (a * 256 + b) = v) : decode c pc = .ok (.ifnonnull v, 3) := dec_of (n := 3) (by unfold Decoder.instr; rw [rd_bind (rd_u1 h.1)]; show (ReaderT.run (Reader.s2 >>= fun k => pure (.ifnonnull k) : Decoder Instr) c).run (pc + 1) = _; rw [rd_bind (rd_s2 h.2.1 h.2.2), e]; rfl)
end DZ
