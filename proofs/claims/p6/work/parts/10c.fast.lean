/-! instructions read off their bytes, one pass a method -/
def cf_by (c : ByteArray) (p : Nat) : Nat := if h : p < c.size then (c[p]'h).toNat else 256
theorem cf_bind {α β : Type} (m : Decoder α) (f : α → Decoder β) (c : ByteArray) (p : Nat) {a : α} {s : Nat} (e : m c p = .ok (a, s)) : (m >>= f) c p = f a c s := by
  show Except.bind (m c p) (fun x => f x.1 c x.2) = _
  rw [e]
  rfl
theorem cf_map {α β : Type} (g : α → β) (m : Decoder α) (c : ByteArray) (p : Nat) {a : α} {s : Nat} (e : m c p = .ok (a, s)) : (g <$> m) c p = .ok (g a, s) := by
  show Except.bind (m c p) (fun x => Except.ok (g x.1, x.2)) = _
  rw [e]
  rfl
theorem cf_u1 {c : ByteArray} {p b : Nat} (h : cf_by c p = b) (hb : b < 256) : (Reader.u1 : Decoder Nat) c p = .ok (b, p + 1) := by
  unfold cf_by at h
  split at h
  · next hp =>
    subst h
    show ((if h : p < c.size then (do set (p + 1); pure (c[p]'h).toNat : Decoder Nat) else throw (HasTruncated.truncated p)) : Decoder Nat) c p = _
    rw [dif_pos hp]
    rfl
  · omega
theorem cf_u2 {c : ByteArray} {p x y : Nat} (h1 : cf_by c p = x) (h2 : cf_by c (p + 1) = y) (hx : x < 256) (hy : y < 256) : (Reader.u2 : Decoder Nat) c p = .ok (x * 256 + y, p + 2) := by
  unfold Reader.u2
  rw [cf_bind _ _ c p (cf_u1 h1 hx), cf_bind _ _ c (p + 1) (cf_u1 h2 hy)]
  rfl
theorem cf_s1 {c : ByteArray} {p x : Nat} (h1 : cf_by c p = x) (hx : x < 256) : (Reader.s1 : Decoder Int) c p = .ok (Reader.signed 8 x, p + 1) := by
  unfold Reader.s1
  exact cf_map _ _ c p (cf_u1 h1 hx)
theorem cf_s2 {c : ByteArray} {p x y : Nat} (h1 : cf_by c p = x) (h2 : cf_by c (p + 1) = y) (hx : x < 256) (hy : y < 256) : (Reader.s2 : Decoder Int) c p = .ok (Reader.signed 16 (x * 256 + y), p + 2) := by
  unfold Reader.s2
  exact cf_map _ _ c p (cf_u2 h1 h2 hx hy)
theorem cf_dec {c : ByteArray} {p n : Nat} {i : Instr} (h : Decoder.instr p c p = .ok (i, p + n)) : decode c p = .ok (i, n) := by
  show Except.bind (Decoder.instr p c p) (fun x => Except.ok (x.1, x.2 - p)) = _
  rw [h]
  show Except.ok (i, p + n - p) = _
  rw [Nat.add_sub_cancel_left]
/-- an instruction of one byte; with a byte, a signed byte, two bytes, two signed bytes behind it -/
def cf_k0 (k : Nat) (i : Instr) : Prop := ∀ c p, cf_by c p = k → Decoder.instr p c p = .ok (i, p + 1)
def cf_k1 (k : Nat) (i : Nat → Instr) : Prop := ∀ c p x, cf_by c p = k → cf_by c (p + 1) = x → x < 256 → Decoder.instr p c p = .ok (i x, p + 2)
def cf_k1s (k : Nat) (i : Int → Instr) : Prop := ∀ c p x, cf_by c p = k → cf_by c (p + 1) = x → x < 256 → Decoder.instr p c p = .ok (i (Reader.signed 8 x), p + 2)
def cf_k2 (k : Nat) (i : Nat → Instr) : Prop := ∀ c p x y, cf_by c p = k → cf_by c (p + 1) = x → cf_by c (p + 2) = y → x < 256 → y < 256 → Decoder.instr p c p = .ok (i (x * 256 + y), p + 3)
def cf_k2s (k : Nat) (i : Int → Instr) : Prop := ∀ c p x y, cf_by c p = k → cf_by c (p + 1) = x → cf_by c (p + 2) = y → x < 256 → y < 256 → Decoder.instr p c p = .ok (i (Reader.signed 16 (x * 256 + y)), p + 3)
theorem cf_start {c : ByteArray} {p k : Nat} {g : Nat → Decoder Instr} (e : Decoder.instr p = Reader.u1 >>= g) (h : cf_by c p = k) (hk : k < 256) : Decoder.instr p c p = g k c (p + 1) := by
  rw [e]
  exact cf_bind _ _ c p (cf_u1 h hk)
theorem cf_t_aconst : cf_k0 1 (.aconst_null) := by
  intro c p h
  exact (cf_start rfl h (by decide)).trans rfl
theorem cf_t_iaload : cf_k0 46 (.iaload) := by
  intro c p h
  exact (cf_start rfl h (by decide)).trans rfl
theorem cf_t_laload : cf_k0 47 (.laload) := by
  intro c p h
  exact (cf_start rfl h (by decide)).trans rfl
theorem cf_t_aaload : cf_k0 50 (.aaload) := by
  intro c p h
  exact (cf_start rfl h (by decide)).trans rfl
theorem cf_t_baload : cf_k0 51 (.baload) := by
  intro c p h
  exact (cf_start rfl h (by decide)).trans rfl
theorem cf_t_caload : cf_k0 52 (.caload) := by
  intro c p h
  exact (cf_start rfl h (by decide)).trans rfl
theorem cf_t_iastore : cf_k0 79 (.iastore) := by
  intro c p h
  exact (cf_start rfl h (by decide)).trans rfl
theorem cf_t_lastore : cf_k0 80 (.lastore) := by
  intro c p h
  exact (cf_start rfl h (by decide)).trans rfl
theorem cf_t_aastore : cf_k0 83 (.aastore) := by
  intro c p h
  exact (cf_start rfl h (by decide)).trans rfl
theorem cf_t_bastore : cf_k0 84 (.bastore) := by
  intro c p h
  exact (cf_start rfl h (by decide)).trans rfl
theorem cf_t_castore : cf_k0 85 (.castore) := by
  intro c p h
  exact (cf_start rfl h (by decide)).trans rfl
theorem cf_t_pop : cf_k0 87 (.pop) := by
  intro c p h
  exact (cf_start rfl h (by decide)).trans rfl
theorem cf_t_dup : cf_k0 89 (.dup) := by
  intro c p h
  exact (cf_start rfl h (by decide)).trans rfl
theorem cf_t_dup2 : cf_k0 92 (.dup2) := by
  intro c p h
  exact (cf_start rfl h (by decide)).trans rfl
theorem cf_t_iadd : cf_k0 96 (.iadd) := by
  intro c p h
  exact (cf_start rfl h (by decide)).trans rfl
theorem cf_t_ladd : cf_k0 97 (.ladd) := by
  intro c p h
  exact (cf_start rfl h (by decide)).trans rfl
theorem cf_t_isub : cf_k0 100 (.isub) := by
  intro c p h
  exact (cf_start rfl h (by decide)).trans rfl
theorem cf_t_imul : cf_k0 104 (.imul) := by
  intro c p h
  exact (cf_start rfl h (by decide)).trans rfl
theorem cf_t_idiv : cf_k0 108 (.idiv) := by
  intro c p h
  exact (cf_start rfl h (by decide)).trans rfl
theorem cf_t_irem : cf_k0 112 (.irem) := by
  intro c p h
  exact (cf_start rfl h (by decide)).trans rfl
theorem cf_t_ineg : cf_k0 116 (.ineg) := by
  intro c p h
  exact (cf_start rfl h (by decide)).trans rfl
theorem cf_t_ishl : cf_k0 120 (.ishl) := by
  intro c p h
  exact (cf_start rfl h (by decide)).trans rfl
theorem cf_t_lshl : cf_k0 121 (.lshl) := by
  intro c p h
  exact (cf_start rfl h (by decide)).trans rfl
theorem cf_t_ishr : cf_k0 122 (.ishr) := by
  intro c p h
  exact (cf_start rfl h (by decide)).trans rfl
theorem cf_t_lshr : cf_k0 123 (.lshr) := by
  intro c p h
  exact (cf_start rfl h (by decide)).trans rfl
theorem cf_t_iushr : cf_k0 124 (.iushr) := by
  intro c p h
  exact (cf_start rfl h (by decide)).trans rfl
theorem cf_t_iand : cf_k0 126 (.iand) := by
  intro c p h
  exact (cf_start rfl h (by decide)).trans rfl
theorem cf_t_land : cf_k0 127 (.land) := by
  intro c p h
  exact (cf_start rfl h (by decide)).trans rfl
theorem cf_t_ior : cf_k0 128 (.ior) := by
  intro c p h
  exact (cf_start rfl h (by decide)).trans rfl
theorem cf_t_lor : cf_k0 129 (.lor) := by
  intro c p h
  exact (cf_start rfl h (by decide)).trans rfl
theorem cf_t_i2l : cf_k0 133 (.i2l) := by
  intro c p h
  exact (cf_start rfl h (by decide)).trans rfl
theorem cf_t_l2i : cf_k0 136 (.l2i) := by
  intro c p h
  exact (cf_start rfl h (by decide)).trans rfl
theorem cf_t_i2b : cf_k0 145 (.i2b) := by
  intro c p h
  exact (cf_start rfl h (by decide)).trans rfl
theorem cf_t_i2c : cf_k0 146 (.i2c) := by
  intro c p h
  exact (cf_start rfl h (by decide)).trans rfl
theorem cf_t_lcmp : cf_k0 148 (.lcmp) := by
  intro c p h
  exact (cf_start rfl h (by decide)).trans rfl
theorem cf_t_ireturn : cf_k0 172 (.ireturn) := by
  intro c p h
  exact (cf_start rfl h (by decide)).trans rfl
theorem cf_t_lreturn : cf_k0 173 (.lreturn) := by
  intro c p h
  exact (cf_start rfl h (by decide)).trans rfl
theorem cf_t_areturn : cf_k0 176 (.areturn) := by
  intro c p h
  exact (cf_start rfl h (by decide)).trans rfl
theorem cf_t_return_ : cf_k0 177 (.return_) := by
  intro c p h
  exact (cf_start rfl h (by decide)).trans rfl
theorem cf_t_arraylength : cf_k0 190 (.arraylength) := by
  intro c p h
  exact (cf_start rfl h (by decide)).trans rfl
theorem cf_t_athrow : cf_k0 191 (.athrow) := by
  intro c p h
  exact (cf_start rfl h (by decide)).trans rfl
theorem cf_t_iconst0 : cf_k0 2 (.iconst (-1)) := by
  intro c p h
  exact (cf_start rfl h (by decide)).trans rfl
theorem cf_t_iconst1 : cf_k0 3 (.iconst 0) := by
  intro c p h
  exact (cf_start rfl h (by decide)).trans rfl
theorem cf_t_iconst2 : cf_k0 4 (.iconst 1) := by
  intro c p h
  exact (cf_start rfl h (by decide)).trans rfl
theorem cf_t_iconst3 : cf_k0 5 (.iconst 2) := by
  intro c p h
  exact (cf_start rfl h (by decide)).trans rfl
theorem cf_t_iconst4 : cf_k0 6 (.iconst 3) := by
  intro c p h
  exact (cf_start rfl h (by decide)).trans rfl
theorem cf_t_iconst5 : cf_k0 7 (.iconst 4) := by
  intro c p h
  exact (cf_start rfl h (by decide)).trans rfl
theorem cf_t_iconst6 : cf_k0 8 (.iconst 5) := by
  intro c p h
  exact (cf_start rfl h (by decide)).trans rfl
theorem cf_t_lconst0 : cf_k0 9 (.lconst 0) := by
  intro c p h
  exact (cf_start rfl h (by decide)).trans rfl
theorem cf_t_lconst1 : cf_k0 10 (.lconst 1) := by
  intro c p h
  exact (cf_start rfl h (by decide)).trans rfl
theorem cf_t_iload_n0 : cf_k0 26 (.iload_n 0) := by
  intro c p h
  exact (cf_start rfl h (by decide)).trans rfl
theorem cf_t_iload_n1 : cf_k0 27 (.iload_n 1) := by
  intro c p h
  exact (cf_start rfl h (by decide)).trans rfl
theorem cf_t_iload_n2 : cf_k0 28 (.iload_n 2) := by
  intro c p h
  exact (cf_start rfl h (by decide)).trans rfl
theorem cf_t_iload_n3 : cf_k0 29 (.iload_n 3) := by
  intro c p h
  exact (cf_start rfl h (by decide)).trans rfl
theorem cf_t_iload_n : ∀ n : Fin 4, cf_k0 (26 + n.val) (.iload_n n)
  | 0 => cf_t_iload_n0
  | 1 => cf_t_iload_n1
  | 2 => cf_t_iload_n2
  | 3 => cf_t_iload_n3
theorem cf_t_lload_n0 : cf_k0 30 (.lload_n 0) := by
  intro c p h
  exact (cf_start rfl h (by decide)).trans rfl
theorem cf_t_lload_n1 : cf_k0 31 (.lload_n 1) := by
  intro c p h
  exact (cf_start rfl h (by decide)).trans rfl
theorem cf_t_lload_n2 : cf_k0 32 (.lload_n 2) := by
  intro c p h
  exact (cf_start rfl h (by decide)).trans rfl
theorem cf_t_lload_n3 : cf_k0 33 (.lload_n 3) := by
  intro c p h
  exact (cf_start rfl h (by decide)).trans rfl
theorem cf_t_lload_n : ∀ n : Fin 4, cf_k0 (30 + n.val) (.lload_n n)
  | 0 => cf_t_lload_n0
  | 1 => cf_t_lload_n1
  | 2 => cf_t_lload_n2
  | 3 => cf_t_lload_n3
theorem cf_t_aload_n0 : cf_k0 42 (.aload_n 0) := by
  intro c p h
  exact (cf_start rfl h (by decide)).trans rfl
theorem cf_t_aload_n1 : cf_k0 43 (.aload_n 1) := by
  intro c p h
  exact (cf_start rfl h (by decide)).trans rfl
theorem cf_t_aload_n2 : cf_k0 44 (.aload_n 2) := by
  intro c p h
  exact (cf_start rfl h (by decide)).trans rfl
theorem cf_t_aload_n3 : cf_k0 45 (.aload_n 3) := by
  intro c p h
  exact (cf_start rfl h (by decide)).trans rfl
theorem cf_t_aload_n : ∀ n : Fin 4, cf_k0 (42 + n.val) (.aload_n n)
  | 0 => cf_t_aload_n0
  | 1 => cf_t_aload_n1
  | 2 => cf_t_aload_n2
  | 3 => cf_t_aload_n3
theorem cf_t_istore_n0 : cf_k0 59 (.istore_n 0) := by
  intro c p h
  exact (cf_start rfl h (by decide)).trans rfl
theorem cf_t_istore_n1 : cf_k0 60 (.istore_n 1) := by
  intro c p h
  exact (cf_start rfl h (by decide)).trans rfl
theorem cf_t_istore_n2 : cf_k0 61 (.istore_n 2) := by
  intro c p h
  exact (cf_start rfl h (by decide)).trans rfl
theorem cf_t_istore_n3 : cf_k0 62 (.istore_n 3) := by
  intro c p h
  exact (cf_start rfl h (by decide)).trans rfl
theorem cf_t_istore_n : ∀ n : Fin 4, cf_k0 (59 + n.val) (.istore_n n)
  | 0 => cf_t_istore_n0
  | 1 => cf_t_istore_n1
  | 2 => cf_t_istore_n2
  | 3 => cf_t_istore_n3
theorem cf_t_lstore_n0 : cf_k0 63 (.lstore_n 0) := by
  intro c p h
  exact (cf_start rfl h (by decide)).trans rfl
theorem cf_t_lstore_n1 : cf_k0 64 (.lstore_n 1) := by
  intro c p h
  exact (cf_start rfl h (by decide)).trans rfl
theorem cf_t_lstore_n2 : cf_k0 65 (.lstore_n 2) := by
  intro c p h
  exact (cf_start rfl h (by decide)).trans rfl
theorem cf_t_lstore_n3 : cf_k0 66 (.lstore_n 3) := by
  intro c p h
  exact (cf_start rfl h (by decide)).trans rfl
theorem cf_t_lstore_n : ∀ n : Fin 4, cf_k0 (63 + n.val) (.lstore_n n)
  | 0 => cf_t_lstore_n0
  | 1 => cf_t_lstore_n1
  | 2 => cf_t_lstore_n2
  | 3 => cf_t_lstore_n3
theorem cf_t_astore_n0 : cf_k0 75 (.astore_n 0) := by
  intro c p h
  exact (cf_start rfl h (by decide)).trans rfl
theorem cf_t_astore_n1 : cf_k0 76 (.astore_n 1) := by
  intro c p h
  exact (cf_start rfl h (by decide)).trans rfl
theorem cf_t_astore_n2 : cf_k0 77 (.astore_n 2) := by
  intro c p h
  exact (cf_start rfl h (by decide)).trans rfl
theorem cf_t_astore_n3 : cf_k0 78 (.astore_n 3) := by
  intro c p h
  exact (cf_start rfl h (by decide)).trans rfl
theorem cf_t_astore_n : ∀ n : Fin 4, cf_k0 (75 + n.val) (.astore_n n)
  | 0 => cf_t_astore_n0
  | 1 => cf_t_astore_n1
  | 2 => cf_t_astore_n2
  | 3 => cf_t_astore_n3
theorem cf_t_ldc : cf_k1 18 (.ldc) := by
  intro c p x h h1 hx
  exact (cf_start rfl h (by decide)).trans ((cf_bind Reader.u1 _ c (p + 1) (cf_u1 h1 hx)).trans rfl)
theorem cf_t_iload : cf_k1 21 (.iload) := by
  intro c p x h h1 hx
  exact (cf_start rfl h (by decide)).trans ((cf_bind Reader.u1 _ c (p + 1) (cf_u1 h1 hx)).trans rfl)
theorem cf_t_lload : cf_k1 22 (.lload) := by
  intro c p x h h1 hx
  exact (cf_start rfl h (by decide)).trans ((cf_bind Reader.u1 _ c (p + 1) (cf_u1 h1 hx)).trans rfl)
theorem cf_t_aload : cf_k1 25 (.aload) := by
  intro c p x h h1 hx
  exact (cf_start rfl h (by decide)).trans ((cf_bind Reader.u1 _ c (p + 1) (cf_u1 h1 hx)).trans rfl)
theorem cf_t_istore : cf_k1 54 (.istore) := by
  intro c p x h h1 hx
  exact (cf_start rfl h (by decide)).trans ((cf_bind Reader.u1 _ c (p + 1) (cf_u1 h1 hx)).trans rfl)
theorem cf_t_lstore : cf_k1 55 (.lstore) := by
  intro c p x h h1 hx
  exact (cf_start rfl h (by decide)).trans ((cf_bind Reader.u1 _ c (p + 1) (cf_u1 h1 hx)).trans rfl)
theorem cf_t_astore : cf_k1 58 (.astore) := by
  intro c p x h h1 hx
  exact (cf_start rfl h (by decide)).trans ((cf_bind Reader.u1 _ c (p + 1) (cf_u1 h1 hx)).trans rfl)
theorem cf_t_bipush : cf_k1s 16 (.bipush) := by
  intro c p x h h1 hx
  exact (cf_start rfl h (by decide)).trans ((cf_bind Reader.s1 _ c (p + 1) (cf_s1 h1 hx)).trans rfl)
theorem cf_t_ldc_w : cf_k2 19 (.ldc_w) := by
  intro c p x y h h1 h2 hx hy
  exact (cf_start rfl h (by decide)).trans ((cf_bind Reader.u2 _ c (p + 1) (cf_u2 h1 h2 hx hy)).trans rfl)
theorem cf_t_ldc2_w : cf_k2 20 (.ldc2_w) := by
  intro c p x y h h1 h2 hx hy
  exact (cf_start rfl h (by decide)).trans ((cf_bind Reader.u2 _ c (p + 1) (cf_u2 h1 h2 hx hy)).trans rfl)
theorem cf_t_getstatic : cf_k2 178 (.getstatic) := by
  intro c p x y h h1 h2 hx hy
  exact (cf_start rfl h (by decide)).trans ((cf_bind Reader.u2 _ c (p + 1) (cf_u2 h1 h2 hx hy)).trans rfl)
theorem cf_t_getfield : cf_k2 180 (.getfield) := by
  intro c p x y h h1 h2 hx hy
  exact (cf_start rfl h (by decide)).trans ((cf_bind Reader.u2 _ c (p + 1) (cf_u2 h1 h2 hx hy)).trans rfl)
theorem cf_t_putfield : cf_k2 181 (.putfield) := by
  intro c p x y h h1 h2 hx hy
  exact (cf_start rfl h (by decide)).trans ((cf_bind Reader.u2 _ c (p + 1) (cf_u2 h1 h2 hx hy)).trans rfl)
theorem cf_t_invokevirtual : cf_k2 182 (.invokevirtual) := by
  intro c p x y h h1 h2 hx hy
  exact (cf_start rfl h (by decide)).trans ((cf_bind Reader.u2 _ c (p + 1) (cf_u2 h1 h2 hx hy)).trans rfl)
theorem cf_t_invokespecial : cf_k2 183 (.invokespecial) := by
  intro c p x y h h1 h2 hx hy
  exact (cf_start rfl h (by decide)).trans ((cf_bind Reader.u2 _ c (p + 1) (cf_u2 h1 h2 hx hy)).trans rfl)
theorem cf_t_invokestatic : cf_k2 184 (.invokestatic) := by
  intro c p x y h h1 h2 hx hy
  exact (cf_start rfl h (by decide)).trans ((cf_bind Reader.u2 _ c (p + 1) (cf_u2 h1 h2 hx hy)).trans rfl)
theorem cf_t_new : cf_k2 187 (.new) := by
  intro c p x y h h1 h2 hx hy
  exact (cf_start rfl h (by decide)).trans ((cf_bind Reader.u2 _ c (p + 1) (cf_u2 h1 h2 hx hy)).trans rfl)
theorem cf_t_anewarray : cf_k2 189 (.anewarray) := by
  intro c p x y h h1 h2 hx hy
  exact (cf_start rfl h (by decide)).trans ((cf_bind Reader.u2 _ c (p + 1) (cf_u2 h1 h2 hx hy)).trans rfl)
theorem cf_t_checkcast : cf_k2 192 (.checkcast) := by
  intro c p x y h h1 h2 hx hy
  exact (cf_start rfl h (by decide)).trans ((cf_bind Reader.u2 _ c (p + 1) (cf_u2 h1 h2 hx hy)).trans rfl)
theorem cf_t_sipush : cf_k2s 17 (.sipush) := by
  intro c p x y h h1 h2 hx hy
  exact (cf_start rfl h (by decide)).trans ((cf_bind Reader.s2 _ c (p + 1) (cf_s2 h1 h2 hx hy)).trans rfl)
theorem cf_t_goto : cf_k2s 167 (.goto) := by
  intro c p x y h h1 h2 hx hy
  exact (cf_start rfl h (by decide)).trans ((cf_bind Reader.s2 _ c (p + 1) (cf_s2 h1 h2 hx hy)).trans rfl)
theorem cf_t_ifnull : cf_k2s 198 (.ifnull) := by
  intro c p x y h h1 h2 hx hy
  exact (cf_start rfl h (by decide)).trans ((cf_bind Reader.s2 _ c (p + 1) (cf_s2 h1 h2 hx hy)).trans rfl)
theorem cf_t_ifnonnull : cf_k2s 199 (.ifnonnull) := by
  intro c p x y h h1 h2 hx hy
  exact (cf_start rfl h (by decide)).trans ((cf_bind Reader.s2 _ c (p + 1) (cf_s2 h1 h2 hx hy)).trans rfl)
theorem cf_t_if_eq : cf_k2s 153 (.ifCond .eq) := by
  intro c p x y h h1 h2 hx hy
  exact (cf_start rfl h (by decide)).trans ((cf_bind Reader.s2 _ c (p + 1) (cf_s2 h1 h2 hx hy)).trans rfl)
theorem cf_t_ic_eq : cf_k2s 159 (.if_icmp .eq) := by
  intro c p x y h h1 h2 hx hy
  exact (cf_start rfl h (by decide)).trans ((cf_bind Reader.s2 _ c (p + 1) (cf_s2 h1 h2 hx hy)).trans rfl)
theorem cf_t_if_ne : cf_k2s 154 (.ifCond .ne) := by
  intro c p x y h h1 h2 hx hy
  exact (cf_start rfl h (by decide)).trans ((cf_bind Reader.s2 _ c (p + 1) (cf_s2 h1 h2 hx hy)).trans rfl)
theorem cf_t_ic_ne : cf_k2s 160 (.if_icmp .ne) := by
  intro c p x y h h1 h2 hx hy
  exact (cf_start rfl h (by decide)).trans ((cf_bind Reader.s2 _ c (p + 1) (cf_s2 h1 h2 hx hy)).trans rfl)
theorem cf_t_if_lt : cf_k2s 155 (.ifCond .lt) := by
  intro c p x y h h1 h2 hx hy
  exact (cf_start rfl h (by decide)).trans ((cf_bind Reader.s2 _ c (p + 1) (cf_s2 h1 h2 hx hy)).trans rfl)
theorem cf_t_ic_lt : cf_k2s 161 (.if_icmp .lt) := by
  intro c p x y h h1 h2 hx hy
  exact (cf_start rfl h (by decide)).trans ((cf_bind Reader.s2 _ c (p + 1) (cf_s2 h1 h2 hx hy)).trans rfl)
theorem cf_t_if_ge : cf_k2s 156 (.ifCond .ge) := by
  intro c p x y h h1 h2 hx hy
  exact (cf_start rfl h (by decide)).trans ((cf_bind Reader.s2 _ c (p + 1) (cf_s2 h1 h2 hx hy)).trans rfl)
theorem cf_t_ic_ge : cf_k2s 162 (.if_icmp .ge) := by
  intro c p x y h h1 h2 hx hy
  exact (cf_start rfl h (by decide)).trans ((cf_bind Reader.s2 _ c (p + 1) (cf_s2 h1 h2 hx hy)).trans rfl)
theorem cf_t_if_gt : cf_k2s 157 (.ifCond .gt) := by
  intro c p x y h h1 h2 hx hy
  exact (cf_start rfl h (by decide)).trans ((cf_bind Reader.s2 _ c (p + 1) (cf_s2 h1 h2 hx hy)).trans rfl)
theorem cf_t_ic_gt : cf_k2s 163 (.if_icmp .gt) := by
  intro c p x y h h1 h2 hx hy
  exact (cf_start rfl h (by decide)).trans ((cf_bind Reader.s2 _ c (p + 1) (cf_s2 h1 h2 hx hy)).trans rfl)
theorem cf_t_if_le : cf_k2s 158 (.ifCond .le) := by
  intro c p x y h h1 h2 hx hy
  exact (cf_start rfl h (by decide)).trans ((cf_bind Reader.s2 _ c (p + 1) (cf_s2 h1 h2 hx hy)).trans rfl)
theorem cf_t_ic_le : cf_k2s 164 (.if_icmp .le) := by
  intro c p x y h h1 h2 hx hy
  exact (cf_start rfl h (by decide)).trans ((cf_bind Reader.s2 _ c (p + 1) (cf_s2 h1 h2 hx hy)).trans rfl)
theorem cf_t_iinc (c : ByteArray) (p x y : Nat) (h : cf_by c p = 132) (h1 : cf_by c (p + 1) = x) (h2 : cf_by c (p + 2) = y) (hx : x < 256) (hy : y < 256) : Decoder.instr p c p = .ok (.iinc x (Reader.signed 8 y), p + 3) := by
  exact (cf_start rfl h (by decide)).trans ((cf_bind Reader.u1 _ c (p + 1) (cf_u1 h1 hx)).trans ((cf_bind Reader.s1 _ c (p + 2) (cf_s1 h2 hy)).trans rfl))
theorem cf_t_na_boolean (c : ByteArray) (p : Nat) (h : cf_by c p = 188) (h1 : cf_by c (p + 1) = 4) : Decoder.instr p c p = .ok (.newarray .boolean, p + 2) := by
  exact (cf_start rfl h (by decide)).trans ((cf_bind Reader.u1 _ c (p + 1) (cf_u1 h1 (by decide))).trans rfl)
theorem cf_t_na_char (c : ByteArray) (p : Nat) (h : cf_by c p = 188) (h1 : cf_by c (p + 1) = 5) : Decoder.instr p c p = .ok (.newarray .char, p + 2) := by
  exact (cf_start rfl h (by decide)).trans ((cf_bind Reader.u1 _ c (p + 1) (cf_u1 h1 (by decide))).trans rfl)
theorem cf_t_na_byte (c : ByteArray) (p : Nat) (h : cf_by c p = 188) (h1 : cf_by c (p + 1) = 8) : Decoder.instr p c p = .ok (.newarray .byte, p + 2) := by
  exact (cf_start rfl h (by decide)).trans ((cf_bind Reader.u1 _ c (p + 1) (cf_u1 h1 (by decide))).trans rfl)
theorem cf_t_na_int (c : ByteArray) (p : Nat) (h : cf_by c p = 188) (h1 : cf_by c (p + 1) = 10) : Decoder.instr p c p = .ok (.newarray .int, p + 2) := by
  exact (cf_start rfl h (by decide)).trans ((cf_bind Reader.u1 _ c (p + 1) (cf_u1 h1 (by decide))).trans rfl)
theorem cf_t_na_long (c : ByteArray) (p : Nat) (h : cf_by c p = 188) (h1 : cf_by c (p + 1) = 11) : Decoder.instr p c p = .ok (.newarray .long, p + 2) := by
  exact (cf_start rfl h (by decide)).trans ((cf_bind Reader.u1 _ c (p + 1) (cf_u1 h1 (by decide))).trans rfl)
/-- the bytes that an instruction is read from: how many, what is left -/
def cf_e0 (k : Nat) (l : List Nat) : Option (Nat × List Nat) := match l with
  | b :: r => cz_if (Nat.beq b k) (some (1, r))
  | _ => none
def cf_e1 (k v : Nat) (l : List Nat) : Option (Nat × List Nat) := match l with
  | b :: x :: r => cz_if (Nat.beq b k && Nat.beq x v) (some (2, r))
  | _ => none
def cf_e1s (k : Nat) (v : Int) (l : List Nat) : Option (Nat × List Nat) := match l with
  | b :: x :: r => cz_if (Nat.beq b k && decide (Reader.signed 8 x = v)) (some (2, r))
  | _ => none
def cf_e2 (k v : Nat) (l : List Nat) : Option (Nat × List Nat) := match l with
  | b :: x :: y :: r => cz_if (Nat.beq b k && Nat.beq (x * 256 + y) v) (some (3, r))
  | _ => none
def cf_e2s (k : Nat) (v : Int) (l : List Nat) : Option (Nat × List Nat) := match l with
  | b :: x :: y :: r => cz_if (Nat.beq b k && decide (Reader.signed 16 (x * 256 + y) = v)) (some (3, r))
  | _ => none
def cf_ei (n : Nat) (v : Int) (l : List Nat) : Option (Nat × List Nat) := match l with
  | b :: x :: y :: r => cz_if (Nat.beq b 132 && (Nat.beq x n && decide (Reader.signed 8 y = v))) (some (3, r))
  | _ => none
def cf_cn (c : Jvm.ClassFile.Cond) : Nat := match c with
  | .eq => 0
  | .ne => 1
  | .lt => 2
  | .ge => 3
  | .gt => 4
  | .le => 5
/-- such bytes lie at p -/
def cf_at (c : ByteArray) (p : Nat) (l : List Nat) : Prop := ∀ (j b : Nat), l[j]? = some b → cf_by c (p + j) = b ∧ b < 256
def cf_ok (i : Instr) (l : List Nat) (n : Nat) (r : List Nat) : Prop := r = l.drop n ∧ ∀ c p, cf_at c p l → decode c p = .ok (i, n)
theorem cf_e0_ok {k : Nat} {i : Instr} {l r : List Nat} {n : Nat} (t : cf_k0 k i) (h : cf_e0 k l = some (n, r)) : cf_ok i l n r := by
  unfold cf_e0 at h
  split at h
  · next b r' =>
    obtain ⟨h1, h2⟩ := cz_if_some h
    cases h2
    have h1 := Nat.eq_of_beq_eq_true h1
    refine ⟨rfl, fun c p a => cf_dec (t c p ?_)⟩
    rw [← h1]
    exact (a 0 b rfl).1
  · cases h
theorem cf_e1_ok {k v : Nat} {i : Nat → Instr} {l r : List Nat} {n : Nat} (t : cf_k1 k i) (h : cf_e1 k v l = some (n, r)) : cf_ok (i v) l n r := by
  unfold cf_e1 at h
  split at h
  · next b x r' =>
    obtain ⟨h1, h2⟩ := cz_if_some h
    cases h2
    simp only [Bool.and_eq_true] at h1
    have h3 := Nat.eq_of_beq_eq_true h1.1
    have h4 := Nat.eq_of_beq_eq_true h1.2
    subst h3 h4
    exact ⟨rfl, fun c p a => cf_dec (t c p _ (a 0 _ rfl).1 (a 1 _ rfl).1 (a 1 _ rfl).2)⟩
  · cases h
theorem cf_e1s_ok {k : Nat} {v : Int} {i : Int → Instr} {l r : List Nat} {n : Nat} (t : cf_k1s k i) (h : cf_e1s k v l = some (n, r)) : cf_ok (i v) l n r := by
  unfold cf_e1s at h
  split at h
  · next b x r' =>
    obtain ⟨h1, h2⟩ := cz_if_some h
    cases h2
    simp only [Bool.and_eq_true, decide_eq_true_eq] at h1
    have h3 := Nat.eq_of_beq_eq_true h1.1
    have h4 := h1.2
    subst h3 h4
    exact ⟨rfl, fun c p a => cf_dec (t c p _ (a 0 _ rfl).1 (a 1 _ rfl).1 (a 1 _ rfl).2)⟩
  · cases h
theorem cf_e2_ok {k v : Nat} {i : Nat → Instr} {l r : List Nat} {n : Nat} (t : cf_k2 k i) (h : cf_e2 k v l = some (n, r)) : cf_ok (i v) l n r := by
  unfold cf_e2 at h
  split at h
  · next b x y r' =>
    obtain ⟨h1, h2⟩ := cz_if_some h
    cases h2
    simp only [Bool.and_eq_true] at h1
    have h3 := Nat.eq_of_beq_eq_true h1.1
    have h4 := Nat.eq_of_beq_eq_true h1.2
    subst h3 h4
    exact ⟨rfl, fun c p a => cf_dec (t c p _ _ (a 0 _ rfl).1 (a 1 _ rfl).1 (a 2 _ rfl).1 (a 1 _ rfl).2 (a 2 _ rfl).2)⟩
  · cases h
theorem cf_e2s_ok {k : Nat} {v : Int} {i : Int → Instr} {l r : List Nat} {n : Nat} (t : cf_k2s k i) (h : cf_e2s k v l = some (n, r)) : cf_ok (i v) l n r := by
  unfold cf_e2s at h
  split at h
  · next b x y r' =>
    obtain ⟨h1, h2⟩ := cz_if_some h
    cases h2
    simp only [Bool.and_eq_true, decide_eq_true_eq] at h1
    have h3 := Nat.eq_of_beq_eq_true h1.1
    have h4 := h1.2
    subst h3 h4
    exact ⟨rfl, fun c p a => cf_dec (t c p _ _ (a 0 _ rfl).1 (a 1 _ rfl).1 (a 2 _ rfl).1 (a 1 _ rfl).2 (a 2 _ rfl).2)⟩
  · cases h
theorem cf_ei_ok {m : Nat} {v : Int} {l r : List Nat} {n : Nat} (h : cf_ei m v l = some (n, r)) : cf_ok (.iinc m v) l n r := by
  unfold cf_ei at h
  split at h
  · next b x y r' =>
    obtain ⟨h1, h2⟩ := cz_if_some h
    cases h2
    simp only [Bool.and_eq_true, decide_eq_true_eq] at h1
    have h3 := Nat.eq_of_beq_eq_true h1.1
    have h4 := Nat.eq_of_beq_eq_true h1.2.1
    have h5 := h1.2.2
    subst h3 h4 h5
    exact ⟨rfl, fun c p a => cf_dec (cf_t_iinc c p _ _ (a 0 _ rfl).1 (a 1 _ rfl).1 (a 2 _ rfl).1 (a 1 _ rfl).2 (a 2 _ rfl).2)⟩
  · cases h
theorem cf_na_ok {k : Nat} {i : Instr} {l r : List Nat} {n : Nat} (t : ∀ c p, cf_by c p = 188 → cf_by c (p + 1) = k → Decoder.instr p c p = .ok (i, p + 2)) (h : cf_e1 188 k l = some (n, r)) : cf_ok i l n r := by
  unfold cf_e1 at h
  split at h
  · next b x r' =>
    obtain ⟨h1, h2⟩ := cz_if_some h
    cases h2
    simp only [Bool.and_eq_true] at h1
    have h3 := Nat.eq_of_beq_eq_true h1.1
    have h4 := Nat.eq_of_beq_eq_true h1.2
    subst h3 h4
    exact ⟨rfl, fun c p a => cf_dec (t c p (a 0 _ rfl).1 (a 1 _ rfl).1)⟩
  · cases h
def cf_em (ins : Instr) (l : List Nat) : Option (Nat × List Nat) := match ins with
  | .aconst_null => cf_e0 1 l
  | .iaload => cf_e0 46 l
  | .laload => cf_e0 47 l
  | .aaload => cf_e0 50 l
  | .baload => cf_e0 51 l
  | .caload => cf_e0 52 l
  | .iastore => cf_e0 79 l
  | .lastore => cf_e0 80 l
  | .aastore => cf_e0 83 l
  | .bastore => cf_e0 84 l
  | .castore => cf_e0 85 l
  | .pop => cf_e0 87 l
  | .dup => cf_e0 89 l
  | .dup2 => cf_e0 92 l
  | .iadd => cf_e0 96 l
  | .ladd => cf_e0 97 l
  | .isub => cf_e0 100 l
  | .imul => cf_e0 104 l
  | .idiv => cf_e0 108 l
  | .irem => cf_e0 112 l
  | .ineg => cf_e0 116 l
  | .ishl => cf_e0 120 l
  | .lshl => cf_e0 121 l
  | .ishr => cf_e0 122 l
  | .lshr => cf_e0 123 l
  | .iushr => cf_e0 124 l
  | .iand => cf_e0 126 l
  | .land => cf_e0 127 l
  | .ior => cf_e0 128 l
  | .lor => cf_e0 129 l
  | .i2l => cf_e0 133 l
  | .l2i => cf_e0 136 l
  | .i2b => cf_e0 145 l
  | .i2c => cf_e0 146 l
  | .lcmp => cf_e0 148 l
  | .ireturn => cf_e0 172 l
  | .lreturn => cf_e0 173 l
  | .areturn => cf_e0 176 l
  | .return_ => cf_e0 177 l
  | .arraylength => cf_e0 190 l
  | .athrow => cf_e0 191 l
  | .iconst (-1) => cf_e0 2 l
  | .iconst 0 => cf_e0 3 l
  | .iconst 1 => cf_e0 4 l
  | .iconst 2 => cf_e0 5 l
  | .iconst 3 => cf_e0 6 l
  | .iconst 4 => cf_e0 7 l
  | .iconst 5 => cf_e0 8 l
  | .lconst 0 => cf_e0 9 l
  | .lconst 1 => cf_e0 10 l
  | .iload_n n => cf_e0 (26 + n.val) l
  | .lload_n n => cf_e0 (30 + n.val) l
  | .aload_n n => cf_e0 (42 + n.val) l
  | .istore_n n => cf_e0 (59 + n.val) l
  | .lstore_n n => cf_e0 (63 + n.val) l
  | .astore_n n => cf_e0 (75 + n.val) l
  | .ldc v => cf_e1 18 v l
  | .iload v => cf_e1 21 v l
  | .lload v => cf_e1 22 v l
  | .aload v => cf_e1 25 v l
  | .istore v => cf_e1 54 v l
  | .lstore v => cf_e1 55 v l
  | .astore v => cf_e1 58 v l
  | .bipush v => cf_e1s 16 v l
  | .ldc_w v => cf_e2 19 v l
  | .ldc2_w v => cf_e2 20 v l
  | .getstatic v => cf_e2 178 v l
  | .getfield v => cf_e2 180 v l
  | .putfield v => cf_e2 181 v l
  | .invokevirtual v => cf_e2 182 v l
  | .invokespecial v => cf_e2 183 v l
  | .invokestatic v => cf_e2 184 v l
  | .new v => cf_e2 187 v l
  | .anewarray v => cf_e2 189 v l
  | .checkcast v => cf_e2 192 v l
  | .sipush v => cf_e2s 17 v l
  | .goto v => cf_e2s 167 v l
  | .ifnull v => cf_e2s 198 v l
  | .ifnonnull v => cf_e2s 199 v l
  | .ifCond .eq v => cf_e2s 153 v l
  | .ifCond .ne v => cf_e2s 154 v l
  | .ifCond .lt v => cf_e2s 155 v l
  | .ifCond .ge v => cf_e2s 156 v l
  | .ifCond .gt v => cf_e2s 157 v l
  | .ifCond .le v => cf_e2s 158 v l
  | .if_icmp .eq v => cf_e2s 159 v l
  | .if_icmp .ne v => cf_e2s 160 v l
  | .if_icmp .lt v => cf_e2s 161 v l
  | .if_icmp .ge v => cf_e2s 162 v l
  | .if_icmp .gt v => cf_e2s 163 v l
  | .if_icmp .le v => cf_e2s 164 v l
  | .iinc m v => cf_ei m v l
  | .newarray .boolean => cf_e1 188 4 l
  | .newarray .char => cf_e1 188 5 l
  | .newarray .byte => cf_e1 188 8 l
  | .newarray .int => cf_e1 188 10 l
  | .newarray .long => cf_e1 188 11 l
  | _ => none
theorem cf_em_ok {ins : Instr} {l r : List Nat} {n : Nat} (h : cf_em ins l = some (n, r)) : cf_ok ins l n r := by
  unfold cf_em at h
  split at h
  · exact cf_e0_ok cf_t_aconst h
  · exact cf_e0_ok cf_t_iaload h
  · exact cf_e0_ok cf_t_laload h
  · exact cf_e0_ok cf_t_aaload h
  · exact cf_e0_ok cf_t_baload h
  · exact cf_e0_ok cf_t_caload h
  · exact cf_e0_ok cf_t_iastore h
  · exact cf_e0_ok cf_t_lastore h
  · exact cf_e0_ok cf_t_aastore h
  · exact cf_e0_ok cf_t_bastore h
  · exact cf_e0_ok cf_t_castore h
  · exact cf_e0_ok cf_t_pop h
  · exact cf_e0_ok cf_t_dup h
  · exact cf_e0_ok cf_t_dup2 h
  · exact cf_e0_ok cf_t_iadd h
  · exact cf_e0_ok cf_t_ladd h
  · exact cf_e0_ok cf_t_isub h
  · exact cf_e0_ok cf_t_imul h
  · exact cf_e0_ok cf_t_idiv h
  · exact cf_e0_ok cf_t_irem h
  · exact cf_e0_ok cf_t_ineg h
  · exact cf_e0_ok cf_t_ishl h
  · exact cf_e0_ok cf_t_lshl h
  · exact cf_e0_ok cf_t_ishr h
  · exact cf_e0_ok cf_t_lshr h
  · exact cf_e0_ok cf_t_iushr h
  · exact cf_e0_ok cf_t_iand h
  · exact cf_e0_ok cf_t_land h
  · exact cf_e0_ok cf_t_ior h
  · exact cf_e0_ok cf_t_lor h
  · exact cf_e0_ok cf_t_i2l h
  · exact cf_e0_ok cf_t_l2i h
  · exact cf_e0_ok cf_t_i2b h
  · exact cf_e0_ok cf_t_i2c h
  · exact cf_e0_ok cf_t_lcmp h
  · exact cf_e0_ok cf_t_ireturn h
  · exact cf_e0_ok cf_t_lreturn h
  · exact cf_e0_ok cf_t_areturn h
  · exact cf_e0_ok cf_t_return_ h
  · exact cf_e0_ok cf_t_arraylength h
  · exact cf_e0_ok cf_t_athrow h
  · exact cf_e0_ok cf_t_iconst0 h
  · exact cf_e0_ok cf_t_iconst1 h
  · exact cf_e0_ok cf_t_iconst2 h
  · exact cf_e0_ok cf_t_iconst3 h
  · exact cf_e0_ok cf_t_iconst4 h
  · exact cf_e0_ok cf_t_iconst5 h
  · exact cf_e0_ok cf_t_iconst6 h
  · exact cf_e0_ok cf_t_lconst0 h
  · exact cf_e0_ok cf_t_lconst1 h
  · exact cf_e0_ok (cf_t_iload_n _) h
  · exact cf_e0_ok (cf_t_lload_n _) h
  · exact cf_e0_ok (cf_t_aload_n _) h
  · exact cf_e0_ok (cf_t_istore_n _) h
  · exact cf_e0_ok (cf_t_lstore_n _) h
  · exact cf_e0_ok (cf_t_astore_n _) h
  · exact cf_e1_ok cf_t_ldc h
  · exact cf_e1_ok cf_t_iload h
  · exact cf_e1_ok cf_t_lload h
  · exact cf_e1_ok cf_t_aload h
  · exact cf_e1_ok cf_t_istore h
  · exact cf_e1_ok cf_t_lstore h
  · exact cf_e1_ok cf_t_astore h
  · exact cf_e1s_ok cf_t_bipush h
  · exact cf_e2_ok cf_t_ldc_w h
  · exact cf_e2_ok cf_t_ldc2_w h
  · exact cf_e2_ok cf_t_getstatic h
  · exact cf_e2_ok cf_t_getfield h
  · exact cf_e2_ok cf_t_putfield h
  · exact cf_e2_ok cf_t_invokevirtual h
  · exact cf_e2_ok cf_t_invokespecial h
  · exact cf_e2_ok cf_t_invokestatic h
  · exact cf_e2_ok cf_t_new h
  · exact cf_e2_ok cf_t_anewarray h
  · exact cf_e2_ok cf_t_checkcast h
  · exact cf_e2s_ok cf_t_sipush h
  · exact cf_e2s_ok cf_t_goto h
  · exact cf_e2s_ok cf_t_ifnull h
  · exact cf_e2s_ok cf_t_ifnonnull h
  · exact cf_e2s_ok cf_t_if_eq h
  · exact cf_e2s_ok cf_t_if_ne h
  · exact cf_e2s_ok cf_t_if_lt h
  · exact cf_e2s_ok cf_t_if_ge h
  · exact cf_e2s_ok cf_t_if_gt h
  · exact cf_e2s_ok cf_t_if_le h
  · exact cf_e2s_ok cf_t_ic_eq h
  · exact cf_e2s_ok cf_t_ic_ne h
  · exact cf_e2s_ok cf_t_ic_lt h
  · exact cf_e2s_ok cf_t_ic_ge h
  · exact cf_e2s_ok cf_t_ic_gt h
  · exact cf_e2s_ok cf_t_ic_le h
  · exact cf_ei_ok h
  · exact cf_na_ok cf_t_na_boolean h
  · exact cf_na_ok cf_t_na_char h
  · exact cf_na_ok cf_t_na_byte h
  · exact cf_na_ok cf_t_na_int h
  · exact cf_na_ok cf_t_na_long h
  · exact (nomatch h)
def cf_bl (c : ByteArray) : List Nat := c.data.toList.map fun b => b.toNat
theorem cf_bl_ok (c : ByteArray) : cf_at c 0 (cf_bl c) := by
  intro j b h
  unfold cf_bl at h
  rw [List.getElem?_map] at h
  cases e : c.data.toList[j]? with
  | none => rw [e] at h; cases h
  | some u =>
    rw [e] at h
    cases h
    obtain ⟨hj, hu⟩ := List.getElem?_eq_some_iff.mp e
    have hj2 : j < c.size := by
      rw [Array.length_toList] at hj
      exact hj
    rw [Nat.zero_add]
    refine ⟨?_, u.toNat_lt⟩
    unfold cf_by
    rw [dif_pos hj2]
    have : c[j]'hj2 = u := by
      rw [← hu, Array.getElem_toList]
      rfl
    rw [this]
/-- all of a method's instructions, in their order -/
def cf_ch (c : ByteArray) (w : cz_I → Bool) : List cz_I → List Nat → Nat → Bool
  | [], _, _ => true
  | q :: l, bs, p => Nat.beq q.1 p && (w q && (match cf_em q.2.1 bs with
    | some t => Nat.beq t.1 q.2.2.1 && cf_ch c w l t.2 (q.1 + t.1)
    | none => decide (decode c q.1 = .ok (q.2.1, q.2.2.1)) && cf_ch c w l (bs.drop q.2.2.1) (q.1 + q.2.2.1)))
theorem cf_at_drop {c : ByteArray} {p n : Nat} {l : List Nat} (h : cf_at c p l) : cf_at c (p + n) (l.drop n) := by
  intro j b e
  rw [List.getElem?_drop] at e
  rw [Nat.add_assoc]
  exact h _ _ e
theorem cf_ch_ok {c : ByteArray} {w : cz_I → Bool} : ∀ {l : List cz_I} {bs : List Nat} {p : Nat}, cf_ch c w l bs p = true → cf_at c p bs → ∀ q ∈ l, decode c q.1 = .ok (q.2.1, q.2.2.1) ∧ w q = true
  | [], _, _, _, _, q, hq => by cases hq
  | a :: l, bs, p, h, at_, q, hq => by
    unfold cf_ch at h
    simp only [Bool.and_eq_true] at h
    obtain ⟨h0, hw, h⟩ := h
    have h0 := Nat.eq_of_beq_eq_true h0
    subst h0
    split at h
    · next t ht =>
      simp only [Bool.and_eq_true] at h
      have hn := Nat.eq_of_beq_eq_true h.1
      obtain ⟨n, r⟩ := t
      obtain ⟨hr, hd⟩ := cf_em_ok ht
      have hn : n = a.2.2.1 := hn
      rcases List.mem_cons.mp hq with rfl | hq
      · exact ⟨by rw [← hn]; exact hd c _ at_, hw⟩
      · refine cf_ch_ok h.2 ?_ q hq
        show cf_at c (a.1 + n) r
        rw [hr]
        exact cf_at_drop at_
    · simp only [Bool.and_eq_true, decide_eq_true_eq] at h
      rcases List.mem_cons.mp hq with rfl | hq
      · exact ⟨h.1, hw⟩
      · exact cf_ch_ok h.2 (cf_at_drop at_) q hq
def cf_mn (l : List Nat) (k : Nat) : Bool := match l with
  | [] => false
  | a :: r => Nat.beq a k || cf_mn r k
theorem cf_mn_ok {k : Nat} : ∀ {l : List Nat}, cf_mn l k = true → k ∈ l
  | [], h => by cases h
  | a :: r, h => by
    unfold cf_mn at h
    rcases Bool.or_eq_true_iff.mp h with h | h
    · rw [← Nat.eq_of_beq_eq_true h]
      exact List.mem_cons_self
    · exact List.mem_cons_of_mem _ (cf_mn_ok h)
