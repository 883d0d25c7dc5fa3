/-! ## bytes out of one number: the same instructions, sooner (wip/p22/gen_fast.py) -/
def fb (N i : Nat) : Nat := Nat.land (Nat.shiftRight N (Nat.mul 8 i)) 255
def fd_ck : List UInt8 → Nat → Nat → Bool
  | [], _, n => Nat.beq n 0
  | b :: l, N, n => Nat.rec (motive := fun _ => Bool) false (fun m _ => Nat.beq b.toNat (Nat.land N 255) && fd_ck l (Nat.shiftRight N 8) m) n
theorem fb_s (N i : Nat) : fb (Nat.shiftRight N 8) i = fb N (i + 1) := by
  unfold fb
  show ((N >>> 8) >>> (8 * i)) &&& 255 = (N >>> (8 * (i + 1))) &&& 255
  rw [← Nat.shiftRight_add, show 8 + 8 * i = 8 * (i + 1) by omega]
theorem fd_ck_ok : ∀ (l : List UInt8) (N n : Nat), fd_ck l N n = true → l.length = n ∧ ∀ i (h : i < l.length), (l[i]).toNat = fb N i
  | [], N, n, h => ⟨(Nat.eq_of_beq_eq_true h).symm, fun i h => absurd h (Nat.not_lt_zero _)⟩
  | b :: l, N, 0, h => by cases h
  | b :: l, N, n + 1, h => by
    have h' : (Nat.beq b.toNat (Nat.land N 255) && fd_ck l (Nat.shiftRight N 8) n) = true := h
    rw [Bool.and_eq_true] at h'
    obtain ⟨h1, h2⟩ := fd_ck_ok l _ n h'.2
    refine ⟨by rw [List.length_cons, h1], fun i hi => ?_⟩
    cases i with
    | zero =>
      have := Nat.eq_of_beq_eq_true h'.1
      unfold fb
      exact this
    | succ i =>
      rw [← fb_s]
      exact h2 i (Nat.lt_of_succ_lt_succ hi)
def fd_H (c : ByteArray) (N sz : Nat) : Prop := c.size = sz ∧ ∀ i (h : i < c.size), (c[i]).toNat = fb N i
theorem fd_H_of {c : ByteArray} {N sz : Nat} (h : fd_ck c.data.toList N sz = true) : fd_H c N sz := by
  obtain ⟨h1, h2⟩ := fd_ck_ok _ _ _ h
  exact ⟨h1, fun i hi => h2 i hi⟩
section FD
variable {c : ByteArray} {N sz p pc : Nat}
theorem fd_u1 (H : fd_H c N sz) (hp : p < sz) : (Reader.u1 : Decoder Nat) c p = .ok (fb N p, p + 1) := by
  have h1 : p < c.size := by rw [H.1]; exact hp
  rw [← H.2 p h1]
  show (dite (p < c.size) (fun h => ((MonadStateOf.set (p + 1) : Decoder PUnit) >>= fun _ => (Pure.pure (c[p].toNat) : Decoder Nat))) (fun _ => (MonadExceptOf.throw (HasTruncated.truncated p : DecodeError) : Decoder Nat)) : Decoder Nat) c p = _
  rw [dif_pos h1]
  rfl
theorem fd_b {α β : Type} {x : Decoder α} {f : α → Decoder β} {a : α} {q : Nat} (h : x c p = .ok (a, q)) : (x >>= f) c p = f a c q := by
  show Except.bind (x c p) (fun z => f z.1 c z.2) = f a c q
  rw [h]
  rfl
theorem fd_u2 (H : fd_H c N sz) (hp : p + 1 < sz) : (Reader.u2 : Decoder Nat) c p = .ok (fb N p * 256 + fb N (p + 1), p + 2) := (fd_b (fd_u1 H (by omega))).trans ((fd_b (fd_u1 H hp)).trans rfl)
theorem fd_s1 (H : fd_H c N sz) (hp : p < sz) : (Reader.s1 : Decoder Int) c p = .ok (Reader.signed 8 (fb N p), p + 1) := by
  show Except.bind ((Reader.u1 : Decoder Nat) c p) (fun z => .ok (Reader.signed 8 z.1, z.2)) = _
  rw [fd_u1 H hp]
  rfl
theorem fd_s2 (H : fd_H c N sz) (hp : p + 1 < sz) : (Reader.s2 : Decoder Int) c p = .ok (Reader.signed 16 (fb N p * 256 + fb N (p + 1)), p + 2) := by
  show Except.bind ((Reader.u2 : Decoder Nat) c p) (fun z => .ok (Reader.signed 16 z.1, z.2)) = _
  rw [fd_u2 H hp]
  rfl
theorem fd_fin {I : Instr} {n : Nat} (h : Decoder.instr pc c pc = .ok (I, pc + n)) : decode c pc = .ok (I, n) := by
  show Except.bind (Decoder.instr pc c pc) (fun z => .ok (z.1, z.2 - pc)) = _
  rw [h]
  show Except.ok (I, pc + n - pc) = _
  rw [Nat.add_sub_cancel_left]
end FD
def fd_g0 (sz pc : Nat) (I : Instr) : Option (Instr × Nat) := cond (Nat.blt pc sz) (some (I, 1)) none
def fd_gu1 (N sz pc : Nat) (f : Nat → Instr) : Option (Instr × Nat) := cond (Nat.blt (Nat.add pc 1) sz) (some (f (fb N (Nat.add pc 1)), 2)) none
def fd_gs1 (N sz pc : Nat) (f : Int → Instr) : Option (Instr × Nat) := cond (Nat.blt (Nat.add pc 1) sz) (some (f (Reader.signed 8 (fb N (Nat.add pc 1))), 2)) none
def fd_gu2 (N sz pc : Nat) (f : Nat → Instr) : Option (Instr × Nat) := cond (Nat.blt (Nat.add pc 2) sz) (some (f (Nat.add (Nat.mul (fb N (Nat.add pc 1)) 256) (fb N (Nat.add pc 2))), 3)) none
def fd_gs2 (N sz pc : Nat) (f : Int → Instr) : Option (Instr × Nat) := cond (Nat.blt (Nat.add pc 2) sz) (some (f (Reader.signed 16 (Nat.add (Nat.mul (fb N (Nat.add pc 1)) 256) (fb N (Nat.add pc 2)))), 3)) none
def fd_gi (N sz pc : Nat) : Option (Instr × Nat) := cond (Nat.blt (Nat.add pc 2) sz) (some (.iinc (fb N (Nat.add pc 1)) (Reader.signed 8 (fb N (Nat.add pc 2))), 3)) none
theorem fd_cn {α : Type} {b : Bool} {x : α} {r : α} (h : cond b (some x) none = some r) : b = true ∧ x = r := by
  cases b with
  | true => exact ⟨rfl, Option.some.inj h⟩
  | false => cases h
theorem fd_cc {α : Type} {b : Bool} {x y : Option α} {r : α} (h : cond b x y = some r) : (b = true ∧ x = some r) ∨ y = some r := by
  cases b with
  | true => exact .inl ⟨rfl, h⟩
  | false => exact .inr h
theorem fd_bl {a b : Nat} (h : Nat.blt a b = true) : a < b := Nat.le_of_ble_eq_true h
def fd_d (op N sz pc : Nat) : Option (Instr × Nat) :=
  cond (Nat.beq op 42) (fd_g0 sz pc (.aload_n 0)) (
  cond (Nat.beq op 180) (fd_gu2 N sz pc .getfield) (
  cond (Nat.beq op 182) (fd_gu2 N sz pc .invokevirtual) (
  cond (Nat.beq op 3) (fd_g0 sz pc (.iconst 0)) (
  cond (Nat.beq op 27) (fd_g0 sz pc (.iload_n 1)) (
  cond (Nat.beq op 172) (fd_g0 sz pc .ireturn) (
  cond (Nat.beq op 16) (fd_gs1 N sz pc .bipush) (
  cond (Nat.beq op 4) (fd_g0 sz pc (.iconst 1)) (
  cond (Nat.beq op 167) (fd_gs2 N sz pc .goto) (
  cond (Nat.beq op 28) (fd_g0 sz pc (.iload_n 2)) (
  cond (Nat.beq op 46) (fd_g0 sz pc .iaload) (
  cond (Nat.beq op 181) (fd_gu2 N sz pc .putfield) (
  cond (Nat.beq op 29) (fd_g0 sz pc (.iload_n 3)) (
  cond (Nat.beq op 21) (fd_gu1 N sz pc .iload) (
  cond (Nat.beq op 96) (fd_g0 sz pc .iadd) (
  cond (Nat.beq op 153) (fd_gs2 N sz pc (.ifCond .eq)) (
  cond (Nat.beq op 162) (fd_gs2 N sz pc (.if_icmp .ge)) (
  cond (Nat.beq op 154) (fd_gs2 N sz pc (.ifCond .ne)) (
  cond (Nat.beq op 2) (fd_g0 sz pc (.iconst (-1))) (
  cond (Nat.beq op 132) (fd_gi N sz pc) (
  cond (Nat.beq op 184) (fd_gu2 N sz pc .invokestatic) (
  cond (Nat.beq op 79) (fd_g0 sz pc .iastore) (
  cond (Nat.beq op 61) (fd_g0 sz pc (.istore_n 2)) (
  cond (Nat.beq op 43) (fd_g0 sz pc (.aload_n 1)) (
  cond (Nat.beq op 54) (fd_gu1 N sz pc .istore) (
  cond (Nat.beq op 62) (fd_g0 sz pc (.istore_n 3)) (
  cond (Nat.beq op 17) (fd_gs2 N sz pc .sipush) (
  cond (Nat.beq op 160) (fd_gs2 N sz pc (.if_icmp .ne)) (
  cond (Nat.beq op 60) (fd_g0 sz pc (.istore_n 1)) (
  cond (Nat.beq op 7) (fd_g0 sz pc (.iconst 4)) (
  cond (Nat.beq op 177) (fd_g0 sz pc .return_) (
  cond (Nat.beq op 100) (fd_g0 sz pc .isub) (
  cond (Nat.beq op 6) (fd_g0 sz pc (.iconst 3)) (
  cond (Nat.beq op 89) (fd_g0 sz pc .dup) (
  cond (Nat.beq op 26) (fd_g0 sz pc (.iload_n 0)) (
  cond (Nat.beq op 104) (fd_g0 sz pc .imul) (
  cond (Nat.beq op 5) (fd_g0 sz pc (.iconst 2)) (
  cond (Nat.beq op 20) (fd_gu2 N sz pc .ldc2_w) (
  cond (Nat.beq op 159) (fd_gs2 N sz pc (.if_icmp .eq)) (
  cond (Nat.beq op 161) (fd_gs2 N sz pc (.if_icmp .lt)) (
  cond (Nat.beq op 126) (fd_g0 sz pc .iand) (
  cond (Nat.beq op 183) (fd_gu2 N sz pc .invokespecial) (
  cond (Nat.beq op 164) (fd_gs2 N sz pc (.if_icmp .le)) (
  cond (Nat.beq op 155) (fd_gs2 N sz pc (.ifCond .lt)) (
  cond (Nat.beq op 80) (fd_g0 sz pc .lastore) (
  cond (Nat.beq op 120) (fd_g0 sz pc .ishl) (
  cond (Nat.beq op 163) (fd_gs2 N sz pc (.if_icmp .gt)) (
  cond (Nat.beq op 158) (fd_gs2 N sz pc (.ifCond .le)) (
  cond (Nat.beq op 92) (fd_g0 sz pc .dup2) (
  cond (Nat.beq op 187) (fd_gu2 N sz pc .new) (
  cond (Nat.beq op 122) (fd_g0 sz pc .ishr) (
  cond (Nat.beq op 128) (fd_g0 sz pc .ior) (
  cond (Nat.beq op 44) (fd_g0 sz pc (.aload_n 2)) (
  cond (Nat.beq op 87) (fd_g0 sz pc .pop) (
  cond (Nat.beq op 8) (fd_g0 sz pc (.iconst 5)) (
  cond (Nat.beq op 108) (fd_g0 sz pc .idiv) (
  cond (Nat.beq op 51) (fd_g0 sz pc .baload) (
  cond (Nat.beq op 124) (fd_g0 sz pc .iushr) (
  cond (Nat.beq op 112) (fd_g0 sz pc .irem) (
  cond (Nat.beq op 156) (fd_gs2 N sz pc (.ifCond .ge)) (
  cond (Nat.beq op 19) (fd_gu2 N sz pc .ldc_w) (
  cond (Nat.beq op 190) (fd_g0 sz pc .arraylength) (
  cond (Nat.beq op 18) (fd_gu1 N sz pc .ldc) (
  cond (Nat.beq op 47) (fd_g0 sz pc .laload) (
  cond (Nat.beq op 178) (fd_gu2 N sz pc .getstatic) (
  cond (Nat.beq op 130) (fd_g0 sz pc .ixor) (
  cond (Nat.beq op 50) (fd_g0 sz pc .aaload) (
  cond (Nat.beq op 84) (fd_g0 sz pc .bastore) (
  cond (Nat.beq op 31) (fd_g0 sz pc (.lload_n 1)) (
  cond (Nat.beq op 148) (fd_g0 sz pc .lcmp) (
  cond (Nat.beq op 59) (fd_g0 sz pc (.istore_n 0)) (
  cond (Nat.beq op 191) (fd_g0 sz pc .athrow) (
  cond (Nat.beq op 9) (fd_g0 sz pc (.lconst 0)) (
  cond (Nat.beq op 66) (fd_g0 sz pc (.lstore_n 3)) (
  cond (Nat.beq op 133) (fd_g0 sz pc .i2l) (
  cond (Nat.beq op 189) (fd_gu2 N sz pc .anewarray) (
  cond (Nat.beq op 83) (fd_g0 sz pc .aastore) (
  cond (Nat.beq op 77) (fd_g0 sz pc (.astore_n 2)) (
  cond (Nat.beq op 33) (fd_g0 sz pc (.lload_n 3)) (
  cond (Nat.beq op 105) (fd_g0 sz pc .lmul) (
  cond (Nat.beq op 97) (fd_g0 sz pc .ladd) (
  cond (Nat.beq op 25) (fd_gu1 N sz pc .aload) (
  cond (Nat.beq op 173) (fd_g0 sz pc .lreturn) (
  cond (Nat.beq op 145) (fd_g0 sz pc .i2b) (
  cond (Nat.beq op 121) (fd_g0 sz pc .lshl) (
  cond (Nat.beq op 129) (fd_g0 sz pc .lor) (
  cond (Nat.beq op 146) (fd_g0 sz pc .i2c) (
  cond (Nat.beq op 157) (fd_gs2 N sz pc (.ifCond .gt)) (
  cond (Nat.beq op 58) (fd_gu1 N sz pc .astore) (
  cond (Nat.beq op 32) (fd_g0 sz pc (.lload_n 2)) (
  cond (Nat.beq op 64) (fd_g0 sz pc (.lstore_n 1)) (
  none)))))))))))))))))))))))))))))))))))))))))))))))))))))))))))))))))))))))))))))))))))))))))))
set_option maxRecDepth 100000 in
theorem fd_d_ok {c : ByteArray} {N sz pc op : Nat} {r : Instr × Nat} (H : 0 < sz → fd_H c N sz) (ho : fb N pc = op) (h : fd_d op N sz pc = some r) : decode c pc = .ok r := by
  unfold fd_d at h
  rcases fd_cc h with ⟨e, h⟩ | h
  · obtain ⟨hp, rfl⟩ := fd_cn h
    have hp := fd_bl hp
    have hb := H (by omega)
    have h1 := fd_u1 hb (show pc < sz by omega)
    rw [ho, Nat.eq_of_beq_eq_true e] at h1
    exact fd_fin ((fd_b h1).trans rfl)
  rcases fd_cc h with ⟨e, h⟩ | h
  · obtain ⟨hp, rfl⟩ := fd_cn h
    have hp := fd_bl hp
    have hb := H (by omega)
    have h1 := fd_u1 hb (show pc < sz by have : Nat.add pc 1 = pc + 1 := rfl; have : Nat.add pc 2 = pc + 2 := rfl; omega)
    rw [ho, Nat.eq_of_beq_eq_true e] at h1
    exact fd_fin ((fd_b h1).trans ((fd_b (fd_u2 hb hp)).trans rfl))
  rcases fd_cc h with ⟨e, h⟩ | h
  · obtain ⟨hp, rfl⟩ := fd_cn h
    have hp := fd_bl hp
    have hb := H (by omega)
    have h1 := fd_u1 hb (show pc < sz by have : Nat.add pc 1 = pc + 1 := rfl; have : Nat.add pc 2 = pc + 2 := rfl; omega)
    rw [ho, Nat.eq_of_beq_eq_true e] at h1
    exact fd_fin ((fd_b h1).trans ((fd_b (fd_u2 hb hp)).trans rfl))
  rcases fd_cc h with ⟨e, h⟩ | h
  · obtain ⟨hp, rfl⟩ := fd_cn h
    have hp := fd_bl hp
    have hb := H (by omega)
    have h1 := fd_u1 hb (show pc < sz by omega)
    rw [ho, Nat.eq_of_beq_eq_true e] at h1
    exact fd_fin ((fd_b h1).trans rfl)
  rcases fd_cc h with ⟨e, h⟩ | h
  · obtain ⟨hp, rfl⟩ := fd_cn h
    have hp := fd_bl hp
    have hb := H (by omega)
    have h1 := fd_u1 hb (show pc < sz by omega)
    rw [ho, Nat.eq_of_beq_eq_true e] at h1
    exact fd_fin ((fd_b h1).trans rfl)
  rcases fd_cc h with ⟨e, h⟩ | h
  · obtain ⟨hp, rfl⟩ := fd_cn h
    have hp := fd_bl hp
    have hb := H (by omega)
    have h1 := fd_u1 hb (show pc < sz by omega)
    rw [ho, Nat.eq_of_beq_eq_true e] at h1
    exact fd_fin ((fd_b h1).trans rfl)
  rcases fd_cc h with ⟨e, h⟩ | h
  · obtain ⟨hp, rfl⟩ := fd_cn h
    have hp := fd_bl hp
    have hb := H (by omega)
    have h1 := fd_u1 hb (show pc < sz by have : Nat.add pc 1 = pc + 1 := rfl; have : Nat.add pc 2 = pc + 2 := rfl; omega)
    rw [ho, Nat.eq_of_beq_eq_true e] at h1
    exact fd_fin ((fd_b h1).trans ((fd_b (fd_s1 hb hp)).trans rfl))
  rcases fd_cc h with ⟨e, h⟩ | h
  · obtain ⟨hp, rfl⟩ := fd_cn h
    have hp := fd_bl hp
    have hb := H (by omega)
    have h1 := fd_u1 hb (show pc < sz by omega)
    rw [ho, Nat.eq_of_beq_eq_true e] at h1
    exact fd_fin ((fd_b h1).trans rfl)
  rcases fd_cc h with ⟨e, h⟩ | h
  · obtain ⟨hp, rfl⟩ := fd_cn h
    have hp := fd_bl hp
    have hb := H (by omega)
    have h1 := fd_u1 hb (show pc < sz by have : Nat.add pc 1 = pc + 1 := rfl; have : Nat.add pc 2 = pc + 2 := rfl; omega)
    rw [ho, Nat.eq_of_beq_eq_true e] at h1
    exact fd_fin ((fd_b h1).trans ((fd_b (fd_s2 hb hp)).trans rfl))
  rcases fd_cc h with ⟨e, h⟩ | h
  · obtain ⟨hp, rfl⟩ := fd_cn h
    have hp := fd_bl hp
    have hb := H (by omega)
    have h1 := fd_u1 hb (show pc < sz by omega)
    rw [ho, Nat.eq_of_beq_eq_true e] at h1
    exact fd_fin ((fd_b h1).trans rfl)
  rcases fd_cc h with ⟨e, h⟩ | h
  · obtain ⟨hp, rfl⟩ := fd_cn h
    have hp := fd_bl hp
    have hb := H (by omega)
    have h1 := fd_u1 hb (show pc < sz by omega)
    rw [ho, Nat.eq_of_beq_eq_true e] at h1
    exact fd_fin ((fd_b h1).trans rfl)
  rcases fd_cc h with ⟨e, h⟩ | h
  · obtain ⟨hp, rfl⟩ := fd_cn h
    have hp := fd_bl hp
    have hb := H (by omega)
    have h1 := fd_u1 hb (show pc < sz by have : Nat.add pc 1 = pc + 1 := rfl; have : Nat.add pc 2 = pc + 2 := rfl; omega)
    rw [ho, Nat.eq_of_beq_eq_true e] at h1
    exact fd_fin ((fd_b h1).trans ((fd_b (fd_u2 hb hp)).trans rfl))
  rcases fd_cc h with ⟨e, h⟩ | h
  · obtain ⟨hp, rfl⟩ := fd_cn h
    have hp := fd_bl hp
    have hb := H (by omega)
    have h1 := fd_u1 hb (show pc < sz by omega)
    rw [ho, Nat.eq_of_beq_eq_true e] at h1
    exact fd_fin ((fd_b h1).trans rfl)
  rcases fd_cc h with ⟨e, h⟩ | h
  · obtain ⟨hp, rfl⟩ := fd_cn h
    have hp := fd_bl hp
    have hb := H (by omega)
    have h1 := fd_u1 hb (show pc < sz by have : Nat.add pc 1 = pc + 1 := rfl; have : Nat.add pc 2 = pc + 2 := rfl; omega)
    rw [ho, Nat.eq_of_beq_eq_true e] at h1
    exact fd_fin ((fd_b h1).trans ((fd_b (fd_u1 hb hp)).trans rfl))
  rcases fd_cc h with ⟨e, h⟩ | h
  · obtain ⟨hp, rfl⟩ := fd_cn h
    have hp := fd_bl hp
    have hb := H (by omega)
    have h1 := fd_u1 hb (show pc < sz by omega)
    rw [ho, Nat.eq_of_beq_eq_true e] at h1
    exact fd_fin ((fd_b h1).trans rfl)
  rcases fd_cc h with ⟨e, h⟩ | h
  · obtain ⟨hp, rfl⟩ := fd_cn h
    have hp := fd_bl hp
    have hb := H (by omega)
    have h1 := fd_u1 hb (show pc < sz by have : Nat.add pc 1 = pc + 1 := rfl; have : Nat.add pc 2 = pc + 2 := rfl; omega)
    rw [ho, Nat.eq_of_beq_eq_true e] at h1
    exact fd_fin ((fd_b h1).trans ((fd_b (fd_s2 hb hp)).trans rfl))
  rcases fd_cc h with ⟨e, h⟩ | h
  · obtain ⟨hp, rfl⟩ := fd_cn h
    have hp := fd_bl hp
    have hb := H (by omega)
    have h1 := fd_u1 hb (show pc < sz by have : Nat.add pc 1 = pc + 1 := rfl; have : Nat.add pc 2 = pc + 2 := rfl; omega)
    rw [ho, Nat.eq_of_beq_eq_true e] at h1
    exact fd_fin ((fd_b h1).trans ((fd_b (fd_s2 hb hp)).trans rfl))
  rcases fd_cc h with ⟨e, h⟩ | h
  · obtain ⟨hp, rfl⟩ := fd_cn h
    have hp := fd_bl hp
    have hb := H (by omega)
    have h1 := fd_u1 hb (show pc < sz by have : Nat.add pc 1 = pc + 1 := rfl; have : Nat.add pc 2 = pc + 2 := rfl; omega)
    rw [ho, Nat.eq_of_beq_eq_true e] at h1
    exact fd_fin ((fd_b h1).trans ((fd_b (fd_s2 hb hp)).trans rfl))
  rcases fd_cc h with ⟨e, h⟩ | h
  · obtain ⟨hp, rfl⟩ := fd_cn h
    have hp := fd_bl hp
    have hb := H (by omega)
    have h1 := fd_u1 hb (show pc < sz by omega)
    rw [ho, Nat.eq_of_beq_eq_true e] at h1
    exact fd_fin ((fd_b h1).trans rfl)
  rcases fd_cc h with ⟨e, h⟩ | h
  · obtain ⟨hp, rfl⟩ := fd_cn h
    have hp := fd_bl hp
    have hb := H (by omega)
    have h1 := fd_u1 hb (show pc < sz by have : Nat.add pc 1 = pc + 1 := rfl; have : Nat.add pc 2 = pc + 2 := rfl; omega)
    rw [ho, Nat.eq_of_beq_eq_true e] at h1
    exact fd_fin ((fd_b h1).trans ((fd_b (fd_u1 hb (show pc + 1 < sz by have : Nat.add pc 2 = pc + 2 := rfl; omega))).trans ((fd_b (fd_s1 hb hp)).trans rfl)))
  rcases fd_cc h with ⟨e, h⟩ | h
  · obtain ⟨hp, rfl⟩ := fd_cn h
    have hp := fd_bl hp
    have hb := H (by omega)
    have h1 := fd_u1 hb (show pc < sz by have : Nat.add pc 1 = pc + 1 := rfl; have : Nat.add pc 2 = pc + 2 := rfl; omega)
    rw [ho, Nat.eq_of_beq_eq_true e] at h1
    exact fd_fin ((fd_b h1).trans ((fd_b (fd_u2 hb hp)).trans rfl))
  rcases fd_cc h with ⟨e, h⟩ | h
  · obtain ⟨hp, rfl⟩ := fd_cn h
    have hp := fd_bl hp
    have hb := H (by omega)
    have h1 := fd_u1 hb (show pc < sz by omega)
    rw [ho, Nat.eq_of_beq_eq_true e] at h1
    exact fd_fin ((fd_b h1).trans rfl)
  rcases fd_cc h with ⟨e, h⟩ | h
  · obtain ⟨hp, rfl⟩ := fd_cn h
    have hp := fd_bl hp
    have hb := H (by omega)
    have h1 := fd_u1 hb (show pc < sz by omega)
    rw [ho, Nat.eq_of_beq_eq_true e] at h1
    exact fd_fin ((fd_b h1).trans rfl)
  rcases fd_cc h with ⟨e, h⟩ | h
  · obtain ⟨hp, rfl⟩ := fd_cn h
    have hp := fd_bl hp
    have hb := H (by omega)
    have h1 := fd_u1 hb (show pc < sz by omega)
    rw [ho, Nat.eq_of_beq_eq_true e] at h1
    exact fd_fin ((fd_b h1).trans rfl)
  rcases fd_cc h with ⟨e, h⟩ | h
  · obtain ⟨hp, rfl⟩ := fd_cn h
    have hp := fd_bl hp
    have hb := H (by omega)
    have h1 := fd_u1 hb (show pc < sz by have : Nat.add pc 1 = pc + 1 := rfl; have : Nat.add pc 2 = pc + 2 := rfl; omega)
    rw [ho, Nat.eq_of_beq_eq_true e] at h1
    exact fd_fin ((fd_b h1).trans ((fd_b (fd_u1 hb hp)).trans rfl))
  rcases fd_cc h with ⟨e, h⟩ | h
  · obtain ⟨hp, rfl⟩ := fd_cn h
    have hp := fd_bl hp
    have hb := H (by omega)
    have h1 := fd_u1 hb (show pc < sz by omega)
    rw [ho, Nat.eq_of_beq_eq_true e] at h1
    exact fd_fin ((fd_b h1).trans rfl)
  rcases fd_cc h with ⟨e, h⟩ | h
  · obtain ⟨hp, rfl⟩ := fd_cn h
    have hp := fd_bl hp
    have hb := H (by omega)
    have h1 := fd_u1 hb (show pc < sz by have : Nat.add pc 1 = pc + 1 := rfl; have : Nat.add pc 2 = pc + 2 := rfl; omega)
    rw [ho, Nat.eq_of_beq_eq_true e] at h1
    exact fd_fin ((fd_b h1).trans ((fd_b (fd_s2 hb hp)).trans rfl))
  rcases fd_cc h with ⟨e, h⟩ | h
  · obtain ⟨hp, rfl⟩ := fd_cn h
    have hp := fd_bl hp
    have hb := H (by omega)
    have h1 := fd_u1 hb (show pc < sz by have : Nat.add pc 1 = pc + 1 := rfl; have : Nat.add pc 2 = pc + 2 := rfl; omega)
    rw [ho, Nat.eq_of_beq_eq_true e] at h1
    exact fd_fin ((fd_b h1).trans ((fd_b (fd_s2 hb hp)).trans rfl))
  rcases fd_cc h with ⟨e, h⟩ | h
  · obtain ⟨hp, rfl⟩ := fd_cn h
    have hp := fd_bl hp
    have hb := H (by omega)
    have h1 := fd_u1 hb (show pc < sz by omega)
    rw [ho, Nat.eq_of_beq_eq_true e] at h1
    exact fd_fin ((fd_b h1).trans rfl)
  rcases fd_cc h with ⟨e, h⟩ | h
  · obtain ⟨hp, rfl⟩ := fd_cn h
    have hp := fd_bl hp
    have hb := H (by omega)
    have h1 := fd_u1 hb (show pc < sz by omega)
    rw [ho, Nat.eq_of_beq_eq_true e] at h1
    exact fd_fin ((fd_b h1).trans rfl)
  rcases fd_cc h with ⟨e, h⟩ | h
  · obtain ⟨hp, rfl⟩ := fd_cn h
    have hp := fd_bl hp
    have hb := H (by omega)
    have h1 := fd_u1 hb (show pc < sz by omega)
    rw [ho, Nat.eq_of_beq_eq_true e] at h1
    exact fd_fin ((fd_b h1).trans rfl)
  rcases fd_cc h with ⟨e, h⟩ | h
  · obtain ⟨hp, rfl⟩ := fd_cn h
    have hp := fd_bl hp
    have hb := H (by omega)
    have h1 := fd_u1 hb (show pc < sz by omega)
    rw [ho, Nat.eq_of_beq_eq_true e] at h1
    exact fd_fin ((fd_b h1).trans rfl)
  rcases fd_cc h with ⟨e, h⟩ | h
  · obtain ⟨hp, rfl⟩ := fd_cn h
    have hp := fd_bl hp
    have hb := H (by omega)
    have h1 := fd_u1 hb (show pc < sz by omega)
    rw [ho, Nat.eq_of_beq_eq_true e] at h1
    exact fd_fin ((fd_b h1).trans rfl)
  rcases fd_cc h with ⟨e, h⟩ | h
  · obtain ⟨hp, rfl⟩ := fd_cn h
    have hp := fd_bl hp
    have hb := H (by omega)
    have h1 := fd_u1 hb (show pc < sz by omega)
    rw [ho, Nat.eq_of_beq_eq_true e] at h1
    exact fd_fin ((fd_b h1).trans rfl)
  rcases fd_cc h with ⟨e, h⟩ | h
  · obtain ⟨hp, rfl⟩ := fd_cn h
    have hp := fd_bl hp
    have hb := H (by omega)
    have h1 := fd_u1 hb (show pc < sz by omega)
    rw [ho, Nat.eq_of_beq_eq_true e] at h1
    exact fd_fin ((fd_b h1).trans rfl)
  rcases fd_cc h with ⟨e, h⟩ | h
  · obtain ⟨hp, rfl⟩ := fd_cn h
    have hp := fd_bl hp
    have hb := H (by omega)
    have h1 := fd_u1 hb (show pc < sz by omega)
    rw [ho, Nat.eq_of_beq_eq_true e] at h1
    exact fd_fin ((fd_b h1).trans rfl)
  rcases fd_cc h with ⟨e, h⟩ | h
  · obtain ⟨hp, rfl⟩ := fd_cn h
    have hp := fd_bl hp
    have hb := H (by omega)
    have h1 := fd_u1 hb (show pc < sz by omega)
    rw [ho, Nat.eq_of_beq_eq_true e] at h1
    exact fd_fin ((fd_b h1).trans rfl)
  rcases fd_cc h with ⟨e, h⟩ | h
  · obtain ⟨hp, rfl⟩ := fd_cn h
    have hp := fd_bl hp
    have hb := H (by omega)
    have h1 := fd_u1 hb (show pc < sz by have : Nat.add pc 1 = pc + 1 := rfl; have : Nat.add pc 2 = pc + 2 := rfl; omega)
    rw [ho, Nat.eq_of_beq_eq_true e] at h1
    exact fd_fin ((fd_b h1).trans ((fd_b (fd_u2 hb hp)).trans rfl))
  rcases fd_cc h with ⟨e, h⟩ | h
  · obtain ⟨hp, rfl⟩ := fd_cn h
    have hp := fd_bl hp
    have hb := H (by omega)
    have h1 := fd_u1 hb (show pc < sz by have : Nat.add pc 1 = pc + 1 := rfl; have : Nat.add pc 2 = pc + 2 := rfl; omega)
    rw [ho, Nat.eq_of_beq_eq_true e] at h1
    exact fd_fin ((fd_b h1).trans ((fd_b (fd_s2 hb hp)).trans rfl))
  rcases fd_cc h with ⟨e, h⟩ | h
  · obtain ⟨hp, rfl⟩ := fd_cn h
    have hp := fd_bl hp
    have hb := H (by omega)
    have h1 := fd_u1 hb (show pc < sz by have : Nat.add pc 1 = pc + 1 := rfl; have : Nat.add pc 2 = pc + 2 := rfl; omega)
    rw [ho, Nat.eq_of_beq_eq_true e] at h1
    exact fd_fin ((fd_b h1).trans ((fd_b (fd_s2 hb hp)).trans rfl))
  rcases fd_cc h with ⟨e, h⟩ | h
  · obtain ⟨hp, rfl⟩ := fd_cn h
    have hp := fd_bl hp
    have hb := H (by omega)
    have h1 := fd_u1 hb (show pc < sz by omega)
    rw [ho, Nat.eq_of_beq_eq_true e] at h1
    exact fd_fin ((fd_b h1).trans rfl)
  rcases fd_cc h with ⟨e, h⟩ | h
  · obtain ⟨hp, rfl⟩ := fd_cn h
    have hp := fd_bl hp
    have hb := H (by omega)
    have h1 := fd_u1 hb (show pc < sz by have : Nat.add pc 1 = pc + 1 := rfl; have : Nat.add pc 2 = pc + 2 := rfl; omega)
    rw [ho, Nat.eq_of_beq_eq_true e] at h1
    exact fd_fin ((fd_b h1).trans ((fd_b (fd_u2 hb hp)).trans rfl))
  rcases fd_cc h with ⟨e, h⟩ | h
  · obtain ⟨hp, rfl⟩ := fd_cn h
    have hp := fd_bl hp
    have hb := H (by omega)
    have h1 := fd_u1 hb (show pc < sz by have : Nat.add pc 1 = pc + 1 := rfl; have : Nat.add pc 2 = pc + 2 := rfl; omega)
    rw [ho, Nat.eq_of_beq_eq_true e] at h1
    exact fd_fin ((fd_b h1).trans ((fd_b (fd_s2 hb hp)).trans rfl))
  rcases fd_cc h with ⟨e, h⟩ | h
  · obtain ⟨hp, rfl⟩ := fd_cn h
    have hp := fd_bl hp
    have hb := H (by omega)
    have h1 := fd_u1 hb (show pc < sz by have : Nat.add pc 1 = pc + 1 := rfl; have : Nat.add pc 2 = pc + 2 := rfl; omega)
    rw [ho, Nat.eq_of_beq_eq_true e] at h1
    exact fd_fin ((fd_b h1).trans ((fd_b (fd_s2 hb hp)).trans rfl))
  rcases fd_cc h with ⟨e, h⟩ | h
  · obtain ⟨hp, rfl⟩ := fd_cn h
    have hp := fd_bl hp
    have hb := H (by omega)
    have h1 := fd_u1 hb (show pc < sz by omega)
    rw [ho, Nat.eq_of_beq_eq_true e] at h1
    exact fd_fin ((fd_b h1).trans rfl)
  rcases fd_cc h with ⟨e, h⟩ | h
  · obtain ⟨hp, rfl⟩ := fd_cn h
    have hp := fd_bl hp
    have hb := H (by omega)
    have h1 := fd_u1 hb (show pc < sz by omega)
    rw [ho, Nat.eq_of_beq_eq_true e] at h1
    exact fd_fin ((fd_b h1).trans rfl)
  rcases fd_cc h with ⟨e, h⟩ | h
  · obtain ⟨hp, rfl⟩ := fd_cn h
    have hp := fd_bl hp
    have hb := H (by omega)
    have h1 := fd_u1 hb (show pc < sz by have : Nat.add pc 1 = pc + 1 := rfl; have : Nat.add pc 2 = pc + 2 := rfl; omega)
    rw [ho, Nat.eq_of_beq_eq_true e] at h1
    exact fd_fin ((fd_b h1).trans ((fd_b (fd_s2 hb hp)).trans rfl))
  rcases fd_cc h with ⟨e, h⟩ | h
  · obtain ⟨hp, rfl⟩ := fd_cn h
    have hp := fd_bl hp
    have hb := H (by omega)
    have h1 := fd_u1 hb (show pc < sz by have : Nat.add pc 1 = pc + 1 := rfl; have : Nat.add pc 2 = pc + 2 := rfl; omega)
    rw [ho, Nat.eq_of_beq_eq_true e] at h1
    exact fd_fin ((fd_b h1).trans ((fd_b (fd_s2 hb hp)).trans rfl))
  rcases fd_cc h with ⟨e, h⟩ | h
  · obtain ⟨hp, rfl⟩ := fd_cn h
    have hp := fd_bl hp
    have hb := H (by omega)
    have h1 := fd_u1 hb (show pc < sz by omega)
    rw [ho, Nat.eq_of_beq_eq_true e] at h1
    exact fd_fin ((fd_b h1).trans rfl)
  rcases fd_cc h with ⟨e, h⟩ | h
  · obtain ⟨hp, rfl⟩ := fd_cn h
    have hp := fd_bl hp
    have hb := H (by omega)
    have h1 := fd_u1 hb (show pc < sz by have : Nat.add pc 1 = pc + 1 := rfl; have : Nat.add pc 2 = pc + 2 := rfl; omega)
    rw [ho, Nat.eq_of_beq_eq_true e] at h1
    exact fd_fin ((fd_b h1).trans ((fd_b (fd_u2 hb hp)).trans rfl))
  rcases fd_cc h with ⟨e, h⟩ | h
  · obtain ⟨hp, rfl⟩ := fd_cn h
    have hp := fd_bl hp
    have hb := H (by omega)
    have h1 := fd_u1 hb (show pc < sz by omega)
    rw [ho, Nat.eq_of_beq_eq_true e] at h1
    exact fd_fin ((fd_b h1).trans rfl)
  rcases fd_cc h with ⟨e, h⟩ | h
  · obtain ⟨hp, rfl⟩ := fd_cn h
    have hp := fd_bl hp
    have hb := H (by omega)
    have h1 := fd_u1 hb (show pc < sz by omega)
    rw [ho, Nat.eq_of_beq_eq_true e] at h1
    exact fd_fin ((fd_b h1).trans rfl)
  rcases fd_cc h with ⟨e, h⟩ | h
  · obtain ⟨hp, rfl⟩ := fd_cn h
    have hp := fd_bl hp
    have hb := H (by omega)
    have h1 := fd_u1 hb (show pc < sz by omega)
    rw [ho, Nat.eq_of_beq_eq_true e] at h1
    exact fd_fin ((fd_b h1).trans rfl)
  rcases fd_cc h with ⟨e, h⟩ | h
  · obtain ⟨hp, rfl⟩ := fd_cn h
    have hp := fd_bl hp
    have hb := H (by omega)
    have h1 := fd_u1 hb (show pc < sz by omega)
    rw [ho, Nat.eq_of_beq_eq_true e] at h1
    exact fd_fin ((fd_b h1).trans rfl)
  rcases fd_cc h with ⟨e, h⟩ | h
  · obtain ⟨hp, rfl⟩ := fd_cn h
    have hp := fd_bl hp
    have hb := H (by omega)
    have h1 := fd_u1 hb (show pc < sz by omega)
    rw [ho, Nat.eq_of_beq_eq_true e] at h1
    exact fd_fin ((fd_b h1).trans rfl)
  rcases fd_cc h with ⟨e, h⟩ | h
  · obtain ⟨hp, rfl⟩ := fd_cn h
    have hp := fd_bl hp
    have hb := H (by omega)
    have h1 := fd_u1 hb (show pc < sz by omega)
    rw [ho, Nat.eq_of_beq_eq_true e] at h1
    exact fd_fin ((fd_b h1).trans rfl)
  rcases fd_cc h with ⟨e, h⟩ | h
  · obtain ⟨hp, rfl⟩ := fd_cn h
    have hp := fd_bl hp
    have hb := H (by omega)
    have h1 := fd_u1 hb (show pc < sz by omega)
    rw [ho, Nat.eq_of_beq_eq_true e] at h1
    exact fd_fin ((fd_b h1).trans rfl)
  rcases fd_cc h with ⟨e, h⟩ | h
  · obtain ⟨hp, rfl⟩ := fd_cn h
    have hp := fd_bl hp
    have hb := H (by omega)
    have h1 := fd_u1 hb (show pc < sz by omega)
    rw [ho, Nat.eq_of_beq_eq_true e] at h1
    exact fd_fin ((fd_b h1).trans rfl)
  rcases fd_cc h with ⟨e, h⟩ | h
  · obtain ⟨hp, rfl⟩ := fd_cn h
    have hp := fd_bl hp
    have hb := H (by omega)
    have h1 := fd_u1 hb (show pc < sz by omega)
    rw [ho, Nat.eq_of_beq_eq_true e] at h1
    exact fd_fin ((fd_b h1).trans rfl)
  rcases fd_cc h with ⟨e, h⟩ | h
  · obtain ⟨hp, rfl⟩ := fd_cn h
    have hp := fd_bl hp
    have hb := H (by omega)
    have h1 := fd_u1 hb (show pc < sz by have : Nat.add pc 1 = pc + 1 := rfl; have : Nat.add pc 2 = pc + 2 := rfl; omega)
    rw [ho, Nat.eq_of_beq_eq_true e] at h1
    exact fd_fin ((fd_b h1).trans ((fd_b (fd_s2 hb hp)).trans rfl))
  rcases fd_cc h with ⟨e, h⟩ | h
  · obtain ⟨hp, rfl⟩ := fd_cn h
    have hp := fd_bl hp
    have hb := H (by omega)
    have h1 := fd_u1 hb (show pc < sz by have : Nat.add pc 1 = pc + 1 := rfl; have : Nat.add pc 2 = pc + 2 := rfl; omega)
    rw [ho, Nat.eq_of_beq_eq_true e] at h1
    exact fd_fin ((fd_b h1).trans ((fd_b (fd_u2 hb hp)).trans rfl))
  rcases fd_cc h with ⟨e, h⟩ | h
  · obtain ⟨hp, rfl⟩ := fd_cn h
    have hp := fd_bl hp
    have hb := H (by omega)
    have h1 := fd_u1 hb (show pc < sz by omega)
    rw [ho, Nat.eq_of_beq_eq_true e] at h1
    exact fd_fin ((fd_b h1).trans rfl)
  rcases fd_cc h with ⟨e, h⟩ | h
  · obtain ⟨hp, rfl⟩ := fd_cn h
    have hp := fd_bl hp
    have hb := H (by omega)
    have h1 := fd_u1 hb (show pc < sz by have : Nat.add pc 1 = pc + 1 := rfl; have : Nat.add pc 2 = pc + 2 := rfl; omega)
    rw [ho, Nat.eq_of_beq_eq_true e] at h1
    exact fd_fin ((fd_b h1).trans ((fd_b (fd_u1 hb hp)).trans rfl))
  rcases fd_cc h with ⟨e, h⟩ | h
  · obtain ⟨hp, rfl⟩ := fd_cn h
    have hp := fd_bl hp
    have hb := H (by omega)
    have h1 := fd_u1 hb (show pc < sz by omega)
    rw [ho, Nat.eq_of_beq_eq_true e] at h1
    exact fd_fin ((fd_b h1).trans rfl)
  rcases fd_cc h with ⟨e, h⟩ | h
  · obtain ⟨hp, rfl⟩ := fd_cn h
    have hp := fd_bl hp
    have hb := H (by omega)
    have h1 := fd_u1 hb (show pc < sz by have : Nat.add pc 1 = pc + 1 := rfl; have : Nat.add pc 2 = pc + 2 := rfl; omega)
    rw [ho, Nat.eq_of_beq_eq_true e] at h1
    exact fd_fin ((fd_b h1).trans ((fd_b (fd_u2 hb hp)).trans rfl))
  rcases fd_cc h with ⟨e, h⟩ | h
  · obtain ⟨hp, rfl⟩ := fd_cn h
    have hp := fd_bl hp
    have hb := H (by omega)
    have h1 := fd_u1 hb (show pc < sz by omega)
    rw [ho, Nat.eq_of_beq_eq_true e] at h1
    exact fd_fin ((fd_b h1).trans rfl)
  rcases fd_cc h with ⟨e, h⟩ | h
  · obtain ⟨hp, rfl⟩ := fd_cn h
    have hp := fd_bl hp
    have hb := H (by omega)
    have h1 := fd_u1 hb (show pc < sz by omega)
    rw [ho, Nat.eq_of_beq_eq_true e] at h1
    exact fd_fin ((fd_b h1).trans rfl)
  rcases fd_cc h with ⟨e, h⟩ | h
  · obtain ⟨hp, rfl⟩ := fd_cn h
    have hp := fd_bl hp
    have hb := H (by omega)
    have h1 := fd_u1 hb (show pc < sz by omega)
    rw [ho, Nat.eq_of_beq_eq_true e] at h1
    exact fd_fin ((fd_b h1).trans rfl)
  rcases fd_cc h with ⟨e, h⟩ | h
  · obtain ⟨hp, rfl⟩ := fd_cn h
    have hp := fd_bl hp
    have hb := H (by omega)
    have h1 := fd_u1 hb (show pc < sz by omega)
    rw [ho, Nat.eq_of_beq_eq_true e] at h1
    exact fd_fin ((fd_b h1).trans rfl)
  rcases fd_cc h with ⟨e, h⟩ | h
  · obtain ⟨hp, rfl⟩ := fd_cn h
    have hp := fd_bl hp
    have hb := H (by omega)
    have h1 := fd_u1 hb (show pc < sz by omega)
    rw [ho, Nat.eq_of_beq_eq_true e] at h1
    exact fd_fin ((fd_b h1).trans rfl)
  rcases fd_cc h with ⟨e, h⟩ | h
  · obtain ⟨hp, rfl⟩ := fd_cn h
    have hp := fd_bl hp
    have hb := H (by omega)
    have h1 := fd_u1 hb (show pc < sz by omega)
    rw [ho, Nat.eq_of_beq_eq_true e] at h1
    exact fd_fin ((fd_b h1).trans rfl)
  rcases fd_cc h with ⟨e, h⟩ | h
  · obtain ⟨hp, rfl⟩ := fd_cn h
    have hp := fd_bl hp
    have hb := H (by omega)
    have h1 := fd_u1 hb (show pc < sz by omega)
    rw [ho, Nat.eq_of_beq_eq_true e] at h1
    exact fd_fin ((fd_b h1).trans rfl)
  rcases fd_cc h with ⟨e, h⟩ | h
  · obtain ⟨hp, rfl⟩ := fd_cn h
    have hp := fd_bl hp
    have hb := H (by omega)
    have h1 := fd_u1 hb (show pc < sz by omega)
    rw [ho, Nat.eq_of_beq_eq_true e] at h1
    exact fd_fin ((fd_b h1).trans rfl)
  rcases fd_cc h with ⟨e, h⟩ | h
  · obtain ⟨hp, rfl⟩ := fd_cn h
    have hp := fd_bl hp
    have hb := H (by omega)
    have h1 := fd_u1 hb (show pc < sz by omega)
    rw [ho, Nat.eq_of_beq_eq_true e] at h1
    exact fd_fin ((fd_b h1).trans rfl)
  rcases fd_cc h with ⟨e, h⟩ | h
  · obtain ⟨hp, rfl⟩ := fd_cn h
    have hp := fd_bl hp
    have hb := H (by omega)
    have h1 := fd_u1 hb (show pc < sz by omega)
    rw [ho, Nat.eq_of_beq_eq_true e] at h1
    exact fd_fin ((fd_b h1).trans rfl)
  rcases fd_cc h with ⟨e, h⟩ | h
  · obtain ⟨hp, rfl⟩ := fd_cn h
    have hp := fd_bl hp
    have hb := H (by omega)
    have h1 := fd_u1 hb (show pc < sz by have : Nat.add pc 1 = pc + 1 := rfl; have : Nat.add pc 2 = pc + 2 := rfl; omega)
    rw [ho, Nat.eq_of_beq_eq_true e] at h1
    exact fd_fin ((fd_b h1).trans ((fd_b (fd_u2 hb hp)).trans rfl))
  rcases fd_cc h with ⟨e, h⟩ | h
  · obtain ⟨hp, rfl⟩ := fd_cn h
    have hp := fd_bl hp
    have hb := H (by omega)
    have h1 := fd_u1 hb (show pc < sz by omega)
    rw [ho, Nat.eq_of_beq_eq_true e] at h1
    exact fd_fin ((fd_b h1).trans rfl)
  rcases fd_cc h with ⟨e, h⟩ | h
  · obtain ⟨hp, rfl⟩ := fd_cn h
    have hp := fd_bl hp
    have hb := H (by omega)
    have h1 := fd_u1 hb (show pc < sz by omega)
    rw [ho, Nat.eq_of_beq_eq_true e] at h1
    exact fd_fin ((fd_b h1).trans rfl)
  rcases fd_cc h with ⟨e, h⟩ | h
  · obtain ⟨hp, rfl⟩ := fd_cn h
    have hp := fd_bl hp
    have hb := H (by omega)
    have h1 := fd_u1 hb (show pc < sz by omega)
    rw [ho, Nat.eq_of_beq_eq_true e] at h1
    exact fd_fin ((fd_b h1).trans rfl)
  rcases fd_cc h with ⟨e, h⟩ | h
  · obtain ⟨hp, rfl⟩ := fd_cn h
    have hp := fd_bl hp
    have hb := H (by omega)
    have h1 := fd_u1 hb (show pc < sz by omega)
    rw [ho, Nat.eq_of_beq_eq_true e] at h1
    exact fd_fin ((fd_b h1).trans rfl)
  rcases fd_cc h with ⟨e, h⟩ | h
  · obtain ⟨hp, rfl⟩ := fd_cn h
    have hp := fd_bl hp
    have hb := H (by omega)
    have h1 := fd_u1 hb (show pc < sz by omega)
    rw [ho, Nat.eq_of_beq_eq_true e] at h1
    exact fd_fin ((fd_b h1).trans rfl)
  rcases fd_cc h with ⟨e, h⟩ | h
  · obtain ⟨hp, rfl⟩ := fd_cn h
    have hp := fd_bl hp
    have hb := H (by omega)
    have h1 := fd_u1 hb (show pc < sz by have : Nat.add pc 1 = pc + 1 := rfl; have : Nat.add pc 2 = pc + 2 := rfl; omega)
    rw [ho, Nat.eq_of_beq_eq_true e] at h1
    exact fd_fin ((fd_b h1).trans ((fd_b (fd_u1 hb hp)).trans rfl))
  rcases fd_cc h with ⟨e, h⟩ | h
  · obtain ⟨hp, rfl⟩ := fd_cn h
    have hp := fd_bl hp
    have hb := H (by omega)
    have h1 := fd_u1 hb (show pc < sz by omega)
    rw [ho, Nat.eq_of_beq_eq_true e] at h1
    exact fd_fin ((fd_b h1).trans rfl)
  rcases fd_cc h with ⟨e, h⟩ | h
  · obtain ⟨hp, rfl⟩ := fd_cn h
    have hp := fd_bl hp
    have hb := H (by omega)
    have h1 := fd_u1 hb (show pc < sz by omega)
    rw [ho, Nat.eq_of_beq_eq_true e] at h1
    exact fd_fin ((fd_b h1).trans rfl)
  rcases fd_cc h with ⟨e, h⟩ | h
  · obtain ⟨hp, rfl⟩ := fd_cn h
    have hp := fd_bl hp
    have hb := H (by omega)
    have h1 := fd_u1 hb (show pc < sz by omega)
    rw [ho, Nat.eq_of_beq_eq_true e] at h1
    exact fd_fin ((fd_b h1).trans rfl)
  rcases fd_cc h with ⟨e, h⟩ | h
  · obtain ⟨hp, rfl⟩ := fd_cn h
    have hp := fd_bl hp
    have hb := H (by omega)
    have h1 := fd_u1 hb (show pc < sz by omega)
    rw [ho, Nat.eq_of_beq_eq_true e] at h1
    exact fd_fin ((fd_b h1).trans rfl)
  rcases fd_cc h with ⟨e, h⟩ | h
  · obtain ⟨hp, rfl⟩ := fd_cn h
    have hp := fd_bl hp
    have hb := H (by omega)
    have h1 := fd_u1 hb (show pc < sz by omega)
    rw [ho, Nat.eq_of_beq_eq_true e] at h1
    exact fd_fin ((fd_b h1).trans rfl)
  rcases fd_cc h with ⟨e, h⟩ | h
  · obtain ⟨hp, rfl⟩ := fd_cn h
    have hp := fd_bl hp
    have hb := H (by omega)
    have h1 := fd_u1 hb (show pc < sz by have : Nat.add pc 1 = pc + 1 := rfl; have : Nat.add pc 2 = pc + 2 := rfl; omega)
    rw [ho, Nat.eq_of_beq_eq_true e] at h1
    exact fd_fin ((fd_b h1).trans ((fd_b (fd_s2 hb hp)).trans rfl))
  rcases fd_cc h with ⟨e, h⟩ | h
  · obtain ⟨hp, rfl⟩ := fd_cn h
    have hp := fd_bl hp
    have hb := H (by omega)
    have h1 := fd_u1 hb (show pc < sz by have : Nat.add pc 1 = pc + 1 := rfl; have : Nat.add pc 2 = pc + 2 := rfl; omega)
    rw [ho, Nat.eq_of_beq_eq_true e] at h1
    exact fd_fin ((fd_b h1).trans ((fd_b (fd_u1 hb hp)).trans rfl))
  rcases fd_cc h with ⟨e, h⟩ | h
  · obtain ⟨hp, rfl⟩ := fd_cn h
    have hp := fd_bl hp
    have hb := H (by omega)
    have h1 := fd_u1 hb (show pc < sz by omega)
    rw [ho, Nat.eq_of_beq_eq_true e] at h1
    exact fd_fin ((fd_b h1).trans rfl)
  rcases fd_cc h with ⟨e, h⟩ | h
  · obtain ⟨hp, rfl⟩ := fd_cn h
    have hp := fd_bl hp
    have hb := H (by omega)
    have h1 := fd_u1 hb (show pc < sz by omega)
    rw [ho, Nat.eq_of_beq_eq_true e] at h1
    exact fd_fin ((fd_b h1).trans rfl)
  cases h
def fd (c : ByteArray) (N sz pc : Nat) : Except DecodeError (Instr × Nat) := match fd_d (fb N pc) N sz pc with
  | some r => .ok r
  | none => decode c pc
theorem fd_eq {c : ByteArray} {N sz pc : Nat} (H : 0 < sz → fd_H c N sz) : fd c N sz pc = decode c pc := by
  unfold fd
  split
  · rename_i r hr
    exact (fd_d_ok H rfl hr).symm
  · rfl
def fd_T (y : Nat) : Nat × Nat := cond (Nat.blt y 291) (cond (Nat.blt y 145) (cond (Nat.blt y 72) (cond (Nat.blt y 36) (cond (Nat.blt y 18) (cond (Nat.blt y 9) (cond (Nat.blt y 4) (cond (Nat.blt y 2) (cond (Nat.blt y 1) ((757707581843256837714533334638326216878371975443624648441788957329155293488847601657599605679643431390933616484608673092471108099660675700387328207363546794670006118928231455746942264083169620928739609004442311507650617454441689034644207596270430095862142815049234754228761970774817913951940042322029024429450203077504698269632044640077616280760160010680515155421027123962323825592793207697351558919969902674112737361565496781868487459683457602185618727742775645910167006637456304871594742098775363337886136258463900454462818694283179818, 223)) ((6167709664119222022782261881007687103649733443550139696813214249520718785645224837788305407258581483789098, 44))) (cond (Nat.blt y 3) ((12414737197083702314, 8)) ((29151911587562437108576584254681059729177616693456098963401129371817733032965385475072574987536587096720233030199225092883395626, 53)))) (cond (Nat.blt y 6) (cond (Nat.blt y 5) ((4937303035262252077175162392753875308062638069401943832571298693648736133667414473541379909174682050315603719440015177647863140604761986684578516728941246759475402037022920920449795451532222266076453492009727024458193185880974094183503616604098801998107, 105)) ((6176517018754970501874520083922827898068472609734374519161691913096972737004701867307053874699841361362179, 44))) (cond (Nat.blt y 7) ((42567650599202251993706561560967871770862169744426220272342563263335631176584156534469759706245609037636416693483483462750482555169818128187379127701099531753462348791891049474, 73)) (cond (Nat.blt y 8) ((220898024435479662624180107806603192040182382368766180389388677769604572745537185326379640135214258064677418341740831498000988486916460910595010386310098528216967657184377276866887029873476823216310284871313947, 87)) ((2102045633634355327345934723797034766022918690026461801373981875726264055648998715010771908468210248354138861972284848833236408743273943225402395, 60)))))) (cond (Nat.blt y 13) (cond (Nat.blt y 11) (cond (Nat.blt y 10) ((7456468724832633765243039838881574979593125752536830903532408134432470958155669308995396849889302225011712617542045091053650189098, 54)) ((251403459223871662138418382648414379084788332010267, 21))) (cond (Nat.blt y 12) ((740865127466, 5)) ((12411922447199155242, 8)))) (cond (Nat.blt y 15) (cond (Nat.blt y 14) ((103657630432292468700620145570757116610588661231953131863840724621925645944668410473182900689580834246964832941098, 47)) ((32006105241774922514652698942932809315683395839150373907511502426185652813465609818747099041928976827597548796673456236760588447632974027562, 58))) (cond (Nat.blt y 16) ((1579217380334673462031280769642173630480203280296233767611260044555534823810180597012475428498669838610269211, 45)) (cond (Nat.blt y 17) ((113709050586624514657844144314260055724120760516594040485378378776014860420157565855749199171006829896229098612622828586926619, 52)) ((488395022813209055310111822947947978772299138362931926051850538460683184582246787045646064992959663931809401063359643330647806437341211, 56))))))) (cond (Nat.blt y 27) (cond (Nat.blt y 22) (cond (Nat.blt y 20) (cond (Nat.blt y 19) ((58532575576808554148034609159783386749722, 17)) ((251395497853041076118838315536646948979357008304923, 21))) (cond (Nat.blt y 21) ((251395497853041076118836458626588020908944659618587, 21)) ((893136224011360994690255206934944538, 15)))) (cond (Nat.blt y 24) (cond (Nat.blt y 23) ((251395497853041076118837387081617484944150833961755, 21)) ((251395497853041076118835530171558556873738485275419, 21))) (cond (Nat.blt y 25) ((10939918385314723789916432309204085104061537666220762643107886603202319240671442069349546931912859256791013580885272267165129143254593375459336115867016521172653402544497873716251, 74)) (cond (Nat.blt y 26) ((3370647299288308566882400323185079743469107697702165940912571461142238155757942084330532731814354954104352783926017893169193205843318598960458896512589033213523677752349633764440629781194646710336121583643, 85)) ((2314889609187830609421886022471018256277662544849632127736357885906652856080203163131876030117227357394145061520609645645143840828295742851300633989986261802, 65)))))) (cond (Nat.blt y 31) (cond (Nat.blt y 29) (cond (Nat.blt y 28) ((6167712944995309197300148439761027780081781473304286036631868904640510159310489314600643873899790256708394, 44)) ((56549896352205452615245477492662269287162915571176141117823868286650234181730592846255865881516282129143773001584613239752038305249131534553741461543677469723201859906216994915868385820001956428352733336508439338, 88))) (cond (Nat.blt y 30) ((6167709664119222022782261881007687103649733443550139696813214250043392501235786317668048804273777456585514, 44)) ((45192843308348833310359011442866823848938833799662147706052840353899692740130638294655974310204055429820950506763871844121093766315743242114710751525135107021985994035291132818207518749928761868114998912498579347612046934683037047840842377495082009470655260241517412973448792350335859629838453496923664965005289853798633042497321520938956212201683016734517787, 149)))) (cond (Nat.blt y 33) (cond (Nat.blt y 32) ((267057886236326029182972221507282239229603997810268644655650045620653752568646982396668479324847827611360219970231002794411465915587072166055989094177738217257624159951289734195253237378615570278146129282144381641757052206976656087850, 97)) ((981991362743476719007866452666232483366683392027, 20))) (cond (Nat.blt y 34) ((15454605198318203374222525563409721301447722, 18)) (cond (Nat.blt y 35) ((948752701742663348546757244440278208171114719208955922322603181806563388478171314061823299122857780012068101031239978097759892371729884705540186481807701956972798233149510525276663861231396755370409812460485483292924714, 91)) ((251389788862345990801977776668491964645283921795882, 21)))))))) (cond (Nat.blt y 54) (cond (Nat.blt y 45) (cond (Nat.blt y 40) (cond (Nat.blt y 38) (cond (Nat.blt y 37) ((1484135479713907481695578596458272448533365161174629200423990625665431255903716929553133786175504, 40)) ((2535892841585262971242323458651609163546692139775415716533155008493825758432216143211304039474074984609845492790556808608093027161257671757905499915769332390880885192731, 70))) (cond (Nat.blt y 39) ((1189553907844373546077421292673714611434095331521076622459150588660724778, 30)) ((151561025589653541400073176264900845048524240124562562634921794264446854146520469444050914279930179130034830864223421804526984112584216076676737580183494506582314, 67)))) (cond (Nat.blt y 42) (cond (Nat.blt y 41) ((94233354342849242311177762995376425515076308786532619555104641521585397109706508451549949883735644955, 42)) ((4640157066503013729667183180313015346730246588720478948589248645905667, 29))) (cond (Nat.blt y 43) ((12413892772153570346, 8)) (cond (Nat.blt y 44) ((6171757556906426579086654203560941761072019063800671282956000771354120726100631622705144223697053029538587, 44)) ((590408446286902290872141800706412599916794063565496132698318192931898475731765523885288073353386986174764360416393347120235810839871442354205678989077884480027, 66)))))) (cond (Nat.blt y 49) (cond (Nat.blt y 47) (cond (Nat.blt y 46) ((267050002489911612937185115886137047257837176187620210944340929952557486924394322828635365384525060843902657497820228144817246643307389281315043694662308947199734507822809270335258815416361571617699454610066623128036486367108954200874, 97)) ((276405995958276688469211510831172504590846355732416961565471786, 26))) (cond (Nat.blt y 48) ((2789699947520792233300268486770074283636537976479019557875295439675707716945717039116946742237748638060296490632918595792370979654874910032648753300534630618693112197970944908792106, 75)) ((8438307367969784728600744188993342903668268837529200200480513240371849346229003621698392043659987353023761913910574651010000325763499252823850, 59)))) (cond (Nat.blt y 51) (cond (Nat.blt y 50) ((9911335552084000883412280471606939369094042056854135135266081534652444406449651053309152255645878523467120238838054231010353195924814131555629050461492812248531549443, 69)) ((2535848526353469250927810677560611043751332435081321237501040218695606286983517305418335609712915368929939019670500473555520335728730258340513989533566557868115929400106, 70))) (cond (Nat.blt y 52) ((760226035498, 5)) (cond (Nat.blt y 53) ((97285662637443106770037374906667314372906026413201839624963469610869658874167405890920921176463161130, 42)) ((194690879390506, 6))))))) (cond (Nat.blt y 63) (cond (Nat.blt y 58) (cond (Nat.blt y 56) (cond (Nat.blt y 55) ((1735109515743991723370960822029850867248098773600909589190614988910231672835423071346015860530733744750639312218647213098, 50)) ((96824298241243527386441955599551365438719721716845877408162592025531611747202779167125346785070986282, 42))) (cond (Nat.blt y 57) ((96845658111348104995055848660969350366640665612940040788635229211278471687449502104203808128433698602, 42)) ((66249873257579815683491291698923250599482066626197290, 22)))) (cond (Nat.blt y 60) (cond (Nat.blt y 59) ((64251963671064358212525355732927901779584917936645882191972999758376390912111120573913668780077146641138782923061010565414198282661764956852108190522067919510752864905892108309455930331981650106242416439174919286081397503786, 93)) ((77803138122090350580987548209525357255267581077902146971085993381241076888618, 32))) (cond (Nat.blt y 61) ((64357247450378515486372320341261830714782167399969834, 22)) (cond (Nat.blt y 62) ((1517818417360385565965694780209387270374114679308011214097925276959355956621501420621477873536945856778655370225291491109547675439052461983494422366168214938032271774296970553918540398127575628139495074228507761588144381792938966777221825142416720039798338858739293307119473231843899061122354278017373966342173829108998630042370909891889185824203757347253193936257421666905907771934668708482584086753407652764341080674997046250215664618566420590015530, 187)) ((22562064648569974213333613426119154440888683247074045219492007635638162237767331973970926378, 38)))))) (cond (Nat.blt y 67) (cond (Nat.blt y 65) (cond (Nat.blt y 64) ((64357521483173453909153179294131642870521839126361130, 22)) ((88067014257854249365626760160081374193283125321106665995351142025899883314247061932652330, 37))) (cond (Nat.blt y 66) ((141549453289107387341603859950597462514628791876228301967524394321732319716758760654228056751220165096909279485811759318254636685549246212271550769962, 62)) ((214112109376624942363509546, 11)))) (cond (Nat.blt y 69) (cond (Nat.blt y 68) ((70761541903348507349605006397523933918087876652718322367277872682, 27)) ((62262451676506961624261196700427955305822744949246268189431851390425956285917090209684480607012864575116112290186017141237758469288120305911059927282792449663774453806177318423662234442746689378248192943239310206279308555779, 93))) (cond (Nat.blt y 70) ((667419864729898969096074775762050338732582184620875838001488879594843796180308608385205051654290871651489794058718358762819204587228746277398660646576826720253034906279255400599635894514506186754901501306861435297297504816155644560445643810902691782415679989616515383901045872888626131535429237593429392932034457951834322188252209526372071294608405902905581277775275383294499671688886976337237268294534961802113757626263092685974421089503342864705262555076805820615919624382771054741981810591490021952624379217397279470171179, 218)) (cond (Nat.blt y 71) ((128735638462087027928158458306772466848647035639706120993450504979112568855757787671853026563566684296091776081904916078579512887027480362, 57)) ((590081892483281502294122938440630481819443638679038488271771952422766781737294638059652364987284845089909269967159672144525159177621348945586533730102945028357621257961576163733632919009830218716280952856215615512139045295317675291750423796160867993040318243232934961280753822515162558154706212249095236820249099207120491732337450, 137))))))))) (cond (Nat.blt y 108) (cond (Nat.blt y 90) (cond (Nat.blt y 81) (cond (Nat.blt y 76) (cond (Nat.blt y 74) (cond (Nat.blt y 73) ((23965026299472845870295757869256328133217139823240574946474499464396776698951330606817890818491419561613889357794559626415179419934117419785732861926207291704557286441561273307011430661663395173734031184969022041931761754384287716898758481790066170569784700670407411349334826, 114)) ((1735100280263774664977094827715352830646991563961845318160653005457454018311629370364715511053217699395289936047938223363, 50))) (cond (Nat.blt y 75) ((1435209993241382979759346711808149515484815923967829295153658642198639413781764065918604420070659, 40)) ((5609473396781884128357475412192992646369753461280566891300176389661357149156460248694834543619, 39)))) (cond (Nat.blt y 78) (cond (Nat.blt y 77) ((228642873346908414640656611438130934826, 16)) ((5609473396781884128357475412192992646369753461280633793535771981527996391222886088160829455363, 39))) (cond (Nat.blt y 79) ((2522866026801206393538679974408446831415806628505672848296153256440360070487040203997317649933661333011057641708576660419932926765392085103820215385936238355343801141322306723117658004179691195020375632449075672398758786565559605856655456845453826245179595990291321292578624319893717979572294502681839575645293701467638278281908116808315946, 141)) (cond (Nat.blt y 80) ((276574938170859394327504275402488489929748331286338218785258755, 26)) ((21912504722084537341087364960613492522784899178356059675720234787862465650988314980375543043, 38)))))) (cond (Nat.blt y 85) (cond (Nat.blt y 83) (cond (Nat.blt y 82) ((8437377014031938937808639500641387562707808018221515558143922562228999881313467162716612465941092126938360291099854157537205479600231307851562, 59)) ((9570263288292437900327640132846957294269724074365633141053167787229762103756167634234963242628917799465197882548375873176131470287332815102411326240919548089317689613145598824421967219226975411751974344409346689589112511481095015214894694991700495723470645242318909271235316208531019683929131730788249520075346878182644131750888630950428, 140))) (cond (Nat.blt y 84) ((365693403081861460055306154243384752009674957649781390329134876240923421045630793581536952898666748263662439719427894596600715649637671343310265400785688364974018515695326874245252732551010909011929254393244418957489928573688338691175460915909727906468993484292878284586, 112)) ((88164147701589002883654105234556258770825928259254816659441654760469934413037823207280682, 37)))) (cond (Nat.blt y 87) (cond (Nat.blt y 86) ((310594218730434233406918026271993810163491114150436351108783054492832675147926814566538892114280996052392561551014873808213341095537812518447145224214998346629958453850340997019989671634404475907203779426944759283487848244713200264887339090246590855172258472359332373702575409139382200152939677875634116925217640313832463914542617791234863152495218339582098091790085604821878814410630683621295033186951322455531605685300305289114642752408475196484135444357340902234793784337677978324542731190322069687075798632905183099057339603326213453140345529959655422595936310720774131860646157379479234778770218, 249)) ((70761541903348507349810262778631231128385491054606564658374781467, 27))) (cond (Nat.blt y 88) ((919340836174897284496729800622257962, 15)) (cond (Nat.blt y 89) ((784789353667603258269420273822266230947239557626818427813877841396613016506128416226479469950651586520942429106727595952692599491552314850418990908782789727983581975679254055376405395677548426282, 81)) ((74226092484727203251198658233369903904330149860178259331970479761283244023573460722253909439206304180646424036485900689259375046926596119235834803801544640211539069840479903609493220913352766062567461445302564645010301359871115888633808664059366460991701234568774526908642819199435025443827446187136566879982916167237853505024711009379417664171521074650850477476591361906490766494209550898549826346942453366021419558519748855072686978580489670957054360787104810475472623311073923494734162157629488700578848537521673583542328786118115637680647939627709154270389354169672753760104848449690640165651572398417878617595922387006872344935560369103927746746593239026321183014564814230050883578461268714278621556701010750303902163097461013173114132082262647637079009598138874018606835784669230839746759815694598794953115033393525883500992038437704705975065897546379470030327899076337167611768019247673016450871642396879342449843676820708993523783874346, 392))))))) (cond (Nat.blt y 99) (cond (Nat.blt y 94) (cond (Nat.blt y 92) (cond (Nat.blt y 91) ((6164240955222755043050456737836813098411936523605780739873818727148134714371391887582965205698649496290090, 44)) ((251389788862403147566394443899132070604828770108202, 21))) (cond (Nat.blt y 93) ((96585463613564086594982941998742088072174309260083907071727898243742415934620944091762457835670328023159124323396514557183384759334184150663790332679810146101249526501877290767374226246347449161818580354820277063449663995960663689432645845416729292939326047468827294487283087806429537114386311412937083793164487094612031236716953020563678092378729187620981545144242374122947224208979367087404552433875325930524910235844633460292499225622543080718224130858, 189)) ((1227890734344515948411798589346767787866642764139865622459235563481021443, 30)))) (cond (Nat.blt y 96) (cond (Nat.blt y 95) ((893149375903924339161924994992511786, 15)) ((64393693625178264468476089673118749116498818790734851, 22))) (cond (Nat.blt y 97) ((2288120968664754516488028766505152901393680036906969113428989282395305550661016658646825775811804220165119693019441905595619338572607557805829872420197757331511531782142206964004612312060537233098390915115491054046028738400122049271916258368288537144322407110501629603055493503812242392990866593367032296718841960851683268175398215299275339154258034021162552655748125565003100362894690068051939762304619787758335992749896972212347887754128463558434629910961606334795112006685970509383752921348548687592156062028455826450881832258557016208914933831032230824584220137928535662697971165140650449844825602188849155521173516572711858240132519674272562583828954782777343108767348056982314, 283)) (cond (Nat.blt y 98) ((23262929643892010819024820529778757936687473966368452147267166223233405883213547970237442250967583325548869759422602915044220270599205058698047339871970730772590401083441608247409304665351570102964216370211045841333691370740294610472363595964908964257268359050300255865471786, 114)) ((113773576572835928534641244180164276256584969789229432363279321532948442239608756829150975872780632722769834992181769913303850, 52)))))) (cond (Nat.blt y 103) (cond (Nat.blt y 101) (cond (Nat.blt y 100) ((85543512373827328162198305581311374473640476329849095027680685246755080014490754216166186, 37)) ((1740268671079546086909899774774285631758461926359244489158320699729598664956449838357716823144652699040657573733756896042, 50))) (cond (Nat.blt y 102) ((26475151082363063598382028942852788674127114653209049028598454566793855182664963669916200146470962161885517270287146, 48)) ((276418623726748295121001199041753080026922170164530185306964778, 26)))) (cond (Nat.blt y 105) (cond (Nat.blt y 104) ((815327692025568074990378, 10)) ((813446124130049700725546, 10))) (cond (Nat.blt y 106) ((113719709479900888311320287557514591153144397279801525303853058534294364954067540381257475837420194279438615465455749283775274, 52)) (cond (Nat.blt y 107) ((1735028556901013375448014222654883580597343680064426185646073266924772387595419737970866601297850819326096288238896743210, 50)) ((88467196073578091006284638439655801212288199801987115167433359704829181814362647966849040, 37)))))))) (cond (Nat.blt y 126) (cond (Nat.blt y 117) (cond (Nat.blt y 112) (cond (Nat.blt y 110) (cond (Nat.blt y 109) ((77848882869915690433409071817993760451784506587355168035199027701239504452867, 32)) ((6167678491398411359233637775065201901680963166965988454146511068726665759005795322735109540278786282699779, 44))) (cond (Nat.blt y 111) ((20357512113848979593614300055530521021896848049711092234815785702954578180959508545330897160359688787917186896595165404267742406749215298333474385090312498145261132841602460079217690375175923965402486394976936759472107005880831281058626276891011288901580952322702328780667195095245314874551809361456316569396639134266023982527144593515094283201059427569412000323890529805629766804978311853287195957792433538716115038308185226937016034515691690994670604658980785491042040158985834004301626180138756582242093718501283530152148803584493200651415868542584824580272667199542825510445548221383319955370958662186, 251)) ((94173546705723609707219348621473622455070077993267886098708331517032678845234003687485206633316156202, 42)))) (cond (Nat.blt y 114) (cond (Nat.blt y 113) ((14477316929519328796054850457972241619904810614109741456956043440557352386878678529687149140899246195206952575836534469644899550873755736565702984972797265774930923940227528978950536205832582500279320301667834200874, 89)) ((3502994200320347983090442236986139, 14))) (cond (Nat.blt y 115) ((3502994200320347982527492283564827, 14)) (cond (Nat.blt y 116) ((228642873346908414640783864493848468250, 16)) ((3502994200320347982808967260275483, 14)))))) (cond (Nat.blt y 121) (cond (Nat.blt y 119) (cond (Nat.blt y 118) ((3502994200320347982246017306854171, 14)) ((64357247450378515486372348194912714635838349778138154, 22))) (cond (Nat.blt y 120) ((5098906459969313215690163946549294560942491078929708523091158831154583002785524251, 34)) ((16475455347296899964482611358104625632118575775917061162, 23)))) (cond (Nat.blt y 123) (cond (Nat.blt y 122) ((64325393859275489422060916332620504853915062689003758329758333276826656915218968519727649577211721508481346680161690182896664707626792266721375504095538844582215160042236197341380726150617200309041848235580697995685090341930, 93)) ((5958882318640923425896629014090236565032962931478780947659977834101833213441280973446812365179892070437082445296442601489550750941786902453668479496576031159916358587525816441564900929652705966046755011907756689505108681604651069030182901506926935593737671444740223914682417962, 115))) (cond (Nat.blt y 124) ((17501905068431931400014645717773318250621071577023119227875410160546726099172099209659801142968319948266792043003517242819669965966083763472724695960905615304241289258379060535031120613039839991405178443149947558260078807714385949957096234, 99)) (cond (Nat.blt y 125) ((137548704333332826151280790904995806826264984210279549824291803753878588367278468584210487501439841873146281778232562958543078039317780328621314212650, 62)) ((1524559357141937821511231542759263446464833757192941325744513785578775235238882133804443524153159664918735372382382128283861872129788445209675264892931473884368219970296367095949595645279098437321646548994153319249326957752441585219722685633540194493798952624078453751061371950122, 116))))))) (cond (Nat.blt y 135) (cond (Nat.blt y 130) (cond (Nat.blt y 128) (cond (Nat.blt y 127) ((444180367308462613079765769312056129279803638906241926902813302168162085432686617448291412380364226358088258950558144332586, 51)) ((242879938761130340182586039507321039158271004414047952499984831604185632134802547228540285768870286866042140896911282732156123826230093280203901956958335536182114425096241344058138158224692572734619381245529762230005203754, 92))) (cond (Nat.blt y 129) ((403979694966926076103834969506839107250607221022087487222810662125140608385829998361369706807888897893341659946, 46)) ((26184057348104677011841591339743252162220753003714736325665518739671304036613709937222600544385293211543167038313942149676676877582811302757951671769809728821436306682873376960897254035602460159363466511321446505717450643115897842604783289745783020226371083039849470700199688732908438282137329809927364623035855812549357875893420644551621872122268198566097546648219254252373012868514971728638373373457258681347895581594587657033244250838641558000371977547826548089877164095161765049545325449869657312970663746684514252476563058084040326904255766293908725789588110534883755518346363326075948823320411016940218156334644587790065229815740271224388310393280588509694665671282162600585044746480104448829966382246981389946744017153843043139419655956235789310451180533265602389259858536938192365542435683345388850427434, 337)))) (cond (Nat.blt y 132) (cond (Nat.blt y 131) ((916619772889912205025566355446536818413426049074224712167571302051892326465594894758146915920680442816367024697016887202858607982125689059242404801101408533950618041195804911304848500974618187057842530575651533088524189670758282492648382318839778388476061002186549140281846607540949582778313460467304804310653827825330309458791958533849065979438779498346283291660217751305650025871845950250, 162)) ((1043194871002438845213339922274330725331628949605205107689527146882989427443219499065756514028989330449071669136264936512392977572933999248265830781288141394346301600405772615964348031401089708244072536658743862185845314610389123882, 96))) (cond (Nat.blt y 133) ((276405995958301534039135437290478999764650296909625415051838250, 26)) (cond (Nat.blt y 134) ((367630727045705389176156049035907619508511109284094057449503323588828044395316538892750537913220355, 41)) ((484267500007369542553406465987149923248353517417892523972589369718483992376906128107704514483224308507162008196213753794153389212016391600144657826819047555129492130104131965101094369866191198606848060568856774417473030061098325802503166946859490297040403199167541932324363532460331933028176470088031969241593671306770434607008413437887026794139038207931785801118735781691977425368407426364276192697208113122684247391577929245406440764078052536725631985449171709301605120139744007180060512611394766026339759746318458566823492534069349032774267541972548333146262407304038238782498783760699917631827781108552356327665888275707533676749517225667573842320136606762, 274)))))) (cond (Nat.blt y 140) (cond (Nat.blt y 137) (cond (Nat.blt y 136) ((182833588583807963246003718281740197083163650068826729436054300029318371051384251325207751133209362253230424056466698526860848696550613896364720085608063609865498417184843357620897383210, 77)) ((4637323097889194405254945610335526982415198641176772601833936996316202, 29))) (cond (Nat.blt y 138) ((1187154713059126014707607568691522428135707574605393496903737051924726570, 30)) (cond (Nat.blt y 139) ((1043215430803087420080502956669113649015353426576585355396718107706599448884005142038238712524878610153927603269578510068257256377132341289457898112838305041424424279533578436489976320048014931998271982065262961242860929367919625002, 96)) ((10890950765467742856518694532288350247694849403963872402279329343923357071269650414167925534809400879698409512658857378978251502829321262104208334482972107508143811392667628405546, 74))))) (cond (Nat.blt y 142) (cond (Nat.blt y 141) ((5252502887027215255066952935858578638639906435207575628898534396562312708702479008570212685306642017447825297740749098303597001326819396942667073781514183435306127657980448957579819961898931773693172433959861088692760870190536286279600612585745979350434342999383183442044756046812877671731809564601767261388965860518934281046055450245903615285108588181155922430798739926827028241688582078928783781725858604889421482603320915533109723946, 181)) ((249513901927535740926256538165649976524141105798153175639599999125304732233347335387238923055406196579138994974705965507487117061247419790223629056950132770494352360760137678383524825912853424495674712340219306099816517902847214256672250978910525180355301236557503702046479639547835900509212836635339814972910622546322402049040312837823314792982514356369857547929130309175999812360499974192958146723308540865389040610351482273218439258568399937502830488216917725427134804635482888126742514160948919732941536808418926984213343031492428697937890110781040384439345587167205589802, 239))) (cond (Nat.blt y 143) ((304104208296741637477813673733480193326635171926577229571726555359016599043, 31)) (cond (Nat.blt y 144) ((251389788862399159882407089151513359183647929074474, 21)) ((258159396271405745252144840786448362951305602854848350582978987764657059454218953575542586003460489740843733844673515326208726546661300236365467200312027340401892029552101549373432607941099384304310483861729820715455609265542972937552554653206172713286675288758661938451288744273866471281484041543436381788393345674838103897696326300869423835787436520777148834977607570182334467269544494791572720524264234, 168)))))))))) (cond (Nat.blt y 218) (cond (Nat.blt y 181) (cond (Nat.blt y 163) (cond (Nat.blt y 154) (cond (Nat.blt y 149) (cond (Nat.blt y 147) (cond (Nat.blt y 146) ((4342326379730373648760997713132439456365803141188333873706, 24)) ((77801371275042882612865600858727867599345453128123248242892057363307740594986, 32))) (cond (Nat.blt y 148) ((1227890734344515948411899286273452845185763700164744046818052962128706563, 30)) ((21158985410748548684032408820484359782837686395961570157991221773016360222674075156473612605842927120313390501587113526968242987962435658422648239284103701354210958064558594555137301875249529117176358729267239764748611986430278992499129089464805833516020294550314, 109)))) (cond (Nat.blt y 151) (cond (Nat.blt y 150) ((593644140766050197609906253845472362116619593957448783805320335249761979863209970595809291761350802740489628027811988857493763833511648303271214817313763427114, 66)) ((93754294049359183559789454392084155977916192135838550677984692788936352031544414596695291366793704868860199380913169598964063452444797608887017924848428062702208510397153189025433869792820752513428728443308696334132567424679492368971663667719196391763126451363891899639034179415467945388308239564668006946367960105678398053636482140107638106749867803850943675763747355502830666655527546374457419236221675310230067418000027136063099192967724351304298461993708244287339955983595861138284652171856456195062928123877257540959405986298597006400943175069235391664714619544577530051191342797385266146743221244380160627303529072362282, 260))) (cond (Nat.blt y 152) ((444167310566616332903820042361535418002427185150390785824923827016742119449209293948863561612168264224224900499463168867587, 51)) (cond (Nat.blt y 153) ((29191072314006325589562598551851352981882695395416633663429485367063422231838843172391435190752337493617816677681362004766628378, 53)) ((208512827100741173302572074, 11)))))) (cond (Nat.blt y 158) (cond (Nat.blt y 156) (cond (Nat.blt y 155) ((1085595485883798182811828995627738532365839674420030395758122, 25)) ((893156506421016476201377522195497138, 15))) (cond (Nat.blt y 157) ((3835990873001725404635051113289207544044454066, 19)) ((837466257546465940478746, 10)))) (cond (Nat.blt y 160) (cond (Nat.blt y 159) ((896046353137359020710214408576313883, 15)) ((14992414897632689672647637554223206233053978, 18))) (cond (Nat.blt y 161) ((893622764174281275756713071582190378, 15)) (cond (Nat.blt y 162) ((1619723135291531626086784578157698780243096571051933109328065415481829241595467581675987848233114339101899559977790871069085389125639839804697189512217165490487829654100462063202677851162630205306760751530433933553138856799246813916687647132840781273377480681210817025127316270594304853466929003115073889047777507503985306537995504470711175734822546060103597513252823711361602652968786337929530642643123401709362688425039419855566155036997684938091093619929459242, 192)) ((33999581866979705441188336063228193589833977276105736730244314639049470866356208235613540039791310229861036129862231800856045395369415678061602033303451727681926304131012780666318239813748618620319336682721031775645391942560182190656865202935044058501422244006424309200099497567578724785977881350968450792179424029583288874, 134))))))) (cond (Nat.blt y 172) (cond (Nat.blt y 167) (cond (Nat.blt y 165) (cond (Nat.blt y 164) ((147957323618955804018199494467472680156526726434033028976805768121308256747877241547064553401073961125946107204081843632227319702143158459351485648995640022062963319641132370645624951649335031597184832042536468602526869592903671078955826733534968395081836603445942950369434183764808908583579395289621984279271268001651498, 133)) ((237758252235884319741441486801559287602963157646948055916508433263807193031964387702298141922601728490002171231184535686103034533548526233377785100473166440213500012141216859940630605468363435004962071917598460656884434658550588027217476795863637972867553356844326244982419318431626195908018737973600210206614390441714866606518486787917139893796514298778814207854938521788470401834, 158))) (cond (Nat.blt y 166) ((3838295605551253748942857052388990072192244522, 19)) ((16475577418937840890950601425036911820712157322978309162, 23)))) (cond (Nat.blt y 169) (cond (Nat.blt y 168) ((1680571894723321883774610956026821803364739938730171704003473920680243178566940631737459740468806609937607023894914743426892056397295349988482552423412759581529263288912323059028560174453497063762321689241393332245991439177196491972465230808329191026707841840366760206961279296757879508349994, 121)) ((64493304774354352813017743048105792595469002146716458, 22))) (cond (Nat.blt y 170) ((895024477480185815098828795628526109, 15)) (cond (Nat.blt y 171) ((293626119805969402727619220826834755750335353638480717773031982428575170100322872302804964517185806521573237525397082435053820467749137634263271315858280549964670968044909024343920150711632112606653662732481081970478335590455940241915813923173418, 102)) ((1007841950098624416847628582677366959443910005178087432088194149681151760857138429052740046461809146725629080513844283952136253178986349556215056251441926097277953111913630008507840298750923607814755350207611047876349837433457444754562082356466962511971514170962200151001771291975705651580561414312337480448495282848931508022451938968152934570538172264202189433722943660339173177208358281069614763914282, 167)))))) (cond (Nat.blt y 176) (cond (Nat.blt y 174) (cond (Nat.blt y 173) ((19917603359266511902104372187511695385116504531383062638610807398538376308337194, 33)) ((11253780261559960548367811419395977948893805986762603759361203739735417303728223946903008535914303960300438022827031718455253804580467412600398085146944699911851070676757276015875, 74))) (cond (Nat.blt y 175) ((20599231135950812658395462679871352408221101335244254899935401487670263259282435, 33)) ((24079489987216055975067189931566398847926194033861733568807849995151622829220172776281263364081609678122, 43)))) (cond (Nat.blt y 178) (cond (Nat.blt y 177) ((64357247450392832727689100789757103763703933228325658, 22)) ((1146977030492699590090158413170616139882918866858204780163888753207827656019074206917723228897016380263121103399119507805358523129582070759193934120945044469986941439907511520766386120747956055785968942150638129331462005161244905110267133902339, 101))) (cond (Nat.blt y 179) ((109861235061052661715216186225481595030467827117929877812482940503312474351665580704350307987429043018310037837969831604635206866711298794505925067180633590718324817799006430143441133462512079556291938799233032346173855377173318673589537851079554759079268256336806690122890317156877473670752384515, 123)) (cond (Nat.blt y 180) ((64357247450392832712112210214152620661939662126881562, 22)) ((1578961809681960990242114322484494561900516884545253370465036370797359758943474688463387375027976881431592194, 45)))))))) (cond (Nat.blt y 199) (cond (Nat.blt y 190) (cond (Nat.blt y 185) (cond (Nat.blt y 183) (cond (Nat.blt y 182) ((29127339638834432194954739910842758251974843928577279558218807165612282409652874690775703220382081593721098345993124559018212867, 53)) ((16510429114728816883695876915337046984830524356665673242, 23))) (cond (Nat.blt y 184) ((12429379144391525658, 8)) ((13628177246267105021485163525162, 13)))) (cond (Nat.blt y 187) (cond (Nat.blt y 186) ((64357247450378515486370336851833885714236701688247338, 22)) ((6777455300393961814043661101285163604323630887807053238476113526708333985422664401316759741622601600158187210015815210, 49))) (cond (Nat.blt y 188) ((23244285541890340499526256329226906769925063820683071400010011615511951260710911985342243151646348070449366622439590827677267818367990803723450505353364587955908371328674340395431872307720004710163445520331312550293355453058683373255387086710451120690047552019907709269147444361891535964188130520280473155016063472850161843181138489717322572706690205382052825941670815092156153398559199533700769536453589843113418634272428685433557193809239161859, 185)) (cond (Nat.blt y 189) ((14993254480137966106868925427688315119479594, 18)) ((8198501682134486115719565389447711759898002422273622956279821162667031952811179093599877624593698109865466002180265245815854019676747818120234, 59)))))) (cond (Nat.blt y 194) (cond (Nat.blt y 192) (cond (Nat.blt y 191) ((982040406980361834088070479190214711917457840938, 20)) ((32007149568924520170942073543094936113353113866380980118929316052074899886631804698861137214800208296283224591477141507279223792161316078109, 58))) (cond (Nat.blt y 193) ((536977524302978722554126199975500228852469654829534973156058112015152498880028588436618779836529949954799203497492434575874917038318681975366396699, 61)) ((6326421024785428027980170040251543792975442923772079223888222575076744593399608745071035319841136336913465553457903294605732512006033332648728698919114834106694890356863134814181326788360706853783604871406586471510287779847845764800524280225688145784958998196520490745869182073922056384541926570599404559295182948315452517523127588754111664874607125223904966247393345258393664338625543814612356602894621843388576748447058897107935915924220575032628405692576810, 191)))) (cond (Nat.blt y 196) (cond (Nat.blt y 195) ((3488839142512872001601331183787548, 14)) ((24093592004361508714450412068009631011807725175764720785269478015383192732086522578279400602358201400835, 43))) (cond (Nat.blt y 197) ((4641992217150113563443553191790547404948410491259243025361497864844330, 29)) (cond (Nat.blt y 198) ((1224035573195347934258904997183944882791120060379059084394007360664810538, 30)) ((125206495800721579533008999229400355112914807616256278101669036952208120690613318388438556175361233011443655407066317695699931855794737195, 57))))))) (cond (Nat.blt y 208) (cond (Nat.blt y 203) (cond (Nat.blt y 201) (cond (Nat.blt y 200) ((121067793574862225560516391287382087153262886218245583699405248163415063678239357129836980877470273149142450074890055957122389926473742922932048044672928974623796540457497451042793927051226245927678488716923044439835710358649775737558151851084558025029394202715337915171283948701871209237597664756288418284330, 128)) ((77806478540361009212637748823517852610810159220216867472828840515613463690499, 32))) (cond (Nat.blt y 202) ((4637428410180402639331660362393739855915263564671403032765237299295274, 29)) ((251395497853041076118800899697648444510282893696026, 21)))) (cond (Nat.blt y 205) (cond (Nat.blt y 204) ((214353564263946363682731050, 11)) ((2097568454308510634975733723182950833796350780803221462830282860140269026556696599103159626108914035776163880948211202203520518072782355704099882, 60))) (cond (Nat.blt y 206) ((21900067755836508224338077254000486161328634383086341665243153762896543697417156085287828995, 38)) (cond (Nat.blt y 207) ((444177397480146244868371881591349706324849309288619482273422202286741328254594032039001708329168876110257304397543551054890, 51)) ((58532575576808554147863257442514519503914, 17)))))) (cond (Nat.blt y 213) (cond (Nat.blt y 210) (cond (Nat.blt y 209) ((6167679585023773878053598939893097466073317051388515960859153208785775331288633563372696140516984359173122, 44)) ((32025104745072357539787012137909987612864239239101140625394016474095502153652186683274797392392565070762396663603645476924830331193635585283, 58))) (cond (Nat.blt y 211) ((60198925695681888709681610465639359711572281424637384588028227057528574320458864527891663184682982010406490607823258430009671677383725820651095466478837368211620128966176981751764245844699036067207304699759946860877753353839603014043622014670212939649851971142801543135246843435103476013236490993106260858903893914241005045965902115537769920135419164659157817828078056664627606995394653503831555, 164)) (cond (Nat.blt y 212) ((862914959098475191355007723311842172372588923705828739133371361746312222810598085915331012199349367258239102137000895125593925176939165242535468200452649807439121334390176482500919950580314310202170896593962, 86)) ((106603522060000664767902795455145900720124424017608025164994365492162716450237341538942411400036307584671413220394, 47))))) (cond (Nat.blt y 215) (cond (Nat.blt y 214) ((14035146052553063511327035906346, 13)) ((24093043055693276542769364966412031770723844849188059064574906962516962942351587532408779478333311368451, 43))) (cond (Nat.blt y 216) ((3488813375044378885499248379829034, 14)) (cond (Nat.blt y 217) ((334161933760552444596737043516029003303644588488375311795585369172262254992990649326378, 36)) ((7452060139842348065764622300730561401535184595187599485392984389611821749385565152484984734656570915197472751984882444467984970794, 54))))))))) (cond (Nat.blt y 254) (cond (Nat.blt y 236) (cond (Nat.blt y 227) (cond (Nat.blt y 222) (cond (Nat.blt y 220) (cond (Nat.blt y 219) ((3488892603206874703092768214227754, 14)) ((13166650584632309704186168720336104076256333688095903493930201180153542293282642894606275030079041968198179330207887763781430490864713637975275775294119033224936292754789990776482685485595309046151296042, 84))) (cond (Nat.blt y 221) ((334350817406062255936292535929301692266262010216225277126811697581364483524957846306833, 36)) ((7199866061557178138324980286930087595181692619316280677425537532343137089946419652303309356962895816381786004798194329983134446669434480514406730004006747311497755610952600523564414359098257796031139019845083225430540782722016406171999751699761308787678454240270847523377742485589737619397541144832539, 125)))) (cond (Nat.blt y 224) (cond (Nat.blt y 223) ((5618147750909206305579415921474156945564936881654123678314302246854631635819866959675775825948, 39)) ((113618195833168601780010994304478520517568985633019030678767304188933904949740450429635720829880649165401282149749127562608972327783856766676858251217629330511279884423794926252701825316536945323420243687063464213560039351392537004056637569867091467218526278046053383404699445744531708727327997187, 123))) (cond (Nat.blt y 225) ((77801371275042882223685293264753655364517323748082851342161105124263418960667, 32)) (cond (Nat.blt y 226) ((10880549519488291392799638070907742243258802045369166520519846929182422056427522484212655643734629759765708737096752867160580594100801552670124998079705990376787594110816705429624858719964275380454836472994799314237652219781697157438645263806660682121978719680150304177437585006848750968388527159279461038666068078491910041357182624449838633335456554, 145)) ((1227890734344528502635586050926604065750243461890392427692655451800681987, 30)))))) (cond (Nat.blt y 231) (cond (Nat.blt y 229) (cond (Nat.blt y 228) ((18125203771850439331553288935548274239827086970124975158642138823683, 28)) ((18080153203732445969970615691925021167765167070152843846797746752557068272233050394872850465744439345690554271071633078025398021534015315571108462084321502732947634182444482300326697617783804851314281599235526742637668764860844427316343850, 99))) (cond (Nat.blt y 230) ((1435242585817004361179459447362450484690902061021873470674201401690968795233845356285482824973827, 40)) ((334161933760548910903116032771252861100657472401167370259318990406104507264319814042410, 36)))) (cond (Nat.blt y 233) (cond (Nat.blt y 232) ((1306087407475186229841385943841642830228504007054212708606459149251274221016137809155, 35)) ((267050594728563782777544440408825255893992953643801347287850581104931207612585629455764282436757226076994834007731125240594309586425000370703146552335024060631367519083678870629846034606689645326084232647688254920782237543421236517403, 97))) (cond (Nat.blt y 234) ((1220591653161970649490437083635193026662894753766558332558849690579894571129935466157977863211919143709986291604396514831747816555789613528632780900754903666880279887227427074776292647122991712548258985332797252260450304028191156791449036348843610425513500468454847353089645924129686460184259682262441331547555231086386564024779320610673936202890761600320090831284673530018202489878829443483139038515356802871194335055198598186, 177)) (cond (Nat.blt y 235) ((267530419672202936097650211382249871369192979186030003647546118975722198571116589086075831445815629017505632637239764964585883195633354858444526288175879259902074679607673682305398912507962517546586315993447418934130157776227472028714, 97)) ((51509300825396690520580062277111456736978417478132656632374601872704881815650572603021169365943286897090686878905165658929460954708165482934090560799298334605098448977497403175826872180324369512313898, 83))))))) (cond (Nat.blt y 245) (cond (Nat.blt y 240) (cond (Nat.blt y 238) (cond (Nat.blt y 237) ((45194703443559114515896021310562218952621454585326739132836401850339759991193497821392042018786063899423084065851915941216168934426991172655014301990393638137096536810964335120672998509675117358847045381572647339430632282489561531890707418895159135429715516499506475258473748797618029483761249684357614409690491048056977627191472162114848675121621549891761194, 149)) ((6559826803098093939327018837914857407803652422020176192613707267881848886635656039458950903186357888433586404628985692675768240115055154063437608362220526588902410469418790165577530325155765643185177535920709718406920368403526371475173764672095600682865645846289952871363523993067310855210, 120))) (cond (Nat.blt y 239) ((29161824843386025772549691305487074857341406356263258340772045522184647402034921259488216139669175933625753106553136943592420394, 53)) ((166484588891272180587685094225273613330176726807673523684765469292782506230771541558627207989563174067421126536686161745088316140143473632963811651233247308221905264936268842, 72)))) (cond (Nat.blt y 242) (cond (Nat.blt y 241) ((12052302895088487998496000394893914299098038651789679506463832079509100484980114074152795863211150382557319552748711538299901340189818748935227033043692597649326728712048419037803951199138858, 79)) ((64420617842654354109956272428499073168666070055525162, 22))) (cond (Nat.blt y 243) ((367630727045705389176099511673559889259939723118444349357952569287467225376978371727179813522455812, 41)) (cond (Nat.blt y 244) ((2693827386977585028218559171537162523429148390836419430784402576782063922394452747628288690608755605097540962940047374097143232444131395576087978470043862980786268688851514315926993624780550790155931139456776259265003222502319354816834802160201735141752123237535848670065138333696891227432112463162612981087595881349586342615814951969051579238441924138, 146)) ((15930152209558703585179138500414423648061388394075895460883282534531134664129037386937470477658425140516148090357999783591375704207400011579592104739029290868760945451046512689698469613297231284559993870914910660755560085887516, 94)))))) (cond (Nat.blt y 249) (cond (Nat.blt y 247) (cond (Nat.blt y 246) ((893136224011360994689691586840369946, 15)) ((1564738905162996698796106493449472595794178733208476389550321777949248698547995396990332334336201474454709363126363759419449205138315833913403511192411027500278352540901650772456145202931467548221186581045379521446529325490743402012967888119244822487543866470471351222768836168397047819752323908916719529694946227411178025007675042284853919733828037915756282050228530016581507833126879138510546483629709202510063454416636169796300550619111986264468579973675690111412934840941096924502444510991485878901038413190023022190689954922477515475063010499661982783976032148268126918679113134668842204979453556128618393082534037320642900273670, 263))) (cond (Nat.blt y 248) ((458581419691095097315367574523602624640914281087698628994542757276289402332036682197639179204186057341213449551512145540138, 51)) ((58672362724193293626419770512071687451690, 17)))) (cond (Nat.blt y 251) (cond (Nat.blt y 250) ((243023387602912933415161505264724554447623489839828034084066888241993665327716664199061597143031935788843290222314738222826993075416402299606724260535624953126042358773799664953296050973297757131715979470758676908451511555, 92)) ((4759434180374042435149516745110601828616075015930432807442599536781724473848489676170042360624773584412081449040401665396804398505223022791163591066511264811073578293710551705026377201290207757717386655655642561107154896790075090238133611836579184303714960229665783974957169375328302281068139294525685651031748529047113900193319336257359999693763809709052070271435955140746563281431722310153305703144683137697287462315111939, 176))) (cond (Nat.blt y 252) ((277097052924840984454685302672326006925627959298698701859727914, 26)) (cond (Nat.blt y 253) ((1387447797676748186683558715641921438164202717438405373581618353064805660695426329543151408521493550248981804164216192358647191200858947604448601615747922265011637242925361345242800785714220705125940819225965260219319563393601583823443408886527376730546948783595658282, 111)) ((8446030582871924353346047579507152297607186616106328296970717252662281542147691918442450417416165114996550251699742370084264586984221720449066, 59)))))))) (cond (Nat.blt y 272) (cond (Nat.blt y 263) (cond (Nat.blt y 258) (cond (Nat.blt y 256) (cond (Nat.blt y 255) ((8445963377588246485685191465894114168567543719853582202864077427616957234786093509374992376943886936245580890870969326401587201626719618380842, 59)) ((19917552113788187458650964315638200904534634359099760890274137870017738412211715, 33))) (cond (Nat.blt y 257) ((3065716937731553719860753442401561209473440200469038578259688585723143891100135515734223417824941666828514026953205958354029878606343329471403298205926050541705649957109979330474440639748552234, 80)) ((208062818702764931796966170, 11)))) (cond (Nat.blt y 260) (cond (Nat.blt y 259) ((14984339347662989861898945582425304497917978, 18)) ((1907727395799620931006865686528324976139691166863721470158974252592901671124748962621446705691076763709762140590001117663328067787562, 55))) (cond (Nat.blt y 261) ((113709413754917438686265030214987629935943763433610402418455388624043514175325696753312219245083356068835837056657247645867050, 52)) (cond (Nat.blt y 262) ((414602130486694500316445664461052213858657054483497613815324264693350901563411368624398695560793257921835682855975422459667398732265963070094190095466137810185935004715324846658982394208293977835188798149140524835277185761693513254352212208583933566571921968495650438304041463835754094690858277308132212815476731941414277614206644685088742647340307445322137867111667637671692395091584895308383725592588356736346440972412237201834365034652235546326086948227842615836, 193)) ((7456267097445281629277718154439358913339657729807942362869902230890274562559512483058074111695742524699562723094892385461835183146, 54)))))) (cond (Nat.blt y 267) (cond (Nat.blt y 265) (cond (Nat.blt y 264) ((1305369960169375749947124798138923228500887773336122183329652164863446660672766653482, 35)) ((14984339347662989861875136600821862674510890, 18))) (cond (Nat.blt y 266) ((7456439633053136038078479851583463722774059109915888763026230011240953237743639942072282079390355995244035418310772729784804947995, 54)) ((2605336429234523786039839394935517024997606688426709975731693569623549180969308935672689804930180431917883508603571898406196756137352773548269955069809952697084345849683704033255624532998409101707589000608379977019357211115186369570197272804726113630370003672253101424818930864757512110839598177375270104238408423747190769313745170382865107390166054939405095861366632771385079800599037429239284228328510262599095208716459689253140935772359210581596529639569594335620767440375037567672988907890452069561832778895659932794115, 217)))) (cond (Nat.blt y 269) (cond (Nat.blt y 268) ((53481672730091080540540154922, 12)) ((14984339347662989861900144620790095621984282, 18))) (cond (Nat.blt y 270) ((11253285603056726308308314580932898673514339351521766190482253056695527722264564586501539259143603068538728342550650122949687116381108356072462305295373814584768964741424627168298, 74)) (cond (Nat.blt y 271) ((94113474467399938695140883412130664347634208692208958217303949411841411227086556908988737040136208401, 42)) ((2299694333363536805687773877417754706811581396204063481493513129272509853196031888829220265823331245366929222988584939395285998776903648191699964664919097528755213743605507906483882124854039591787361460353822620317015938447843732583315398510507187681832985636138165174766314125710873549752897630174978247942235445513477441723178, 136))))))) (cond (Nat.blt y 281) (cond (Nat.blt y 276) (cond (Nat.blt y 274) (cond (Nat.blt y 273) ((208062818702764931796835098, 11)) ((3689183692910933629482806276497986471969688244377241328150351700179670509362669265655357602892530125314313795508895230354746195179451605058787853097284473503033720040611088540257265249934480799783739541927003614955425935888759707265586136781463796340651709606218341396506838216660809282879223246597528478437634339587481678563094014183674896888595412458520070898748678502513703787708751360823833147759045309907402857982770379857484636225067948794407640914686620344892361618142447923904104350705460876461939837306760793924643419835156595025689381522047840189999473618404650268102032309981914962815988028878380072670094265315118847834491894801686702336592804049590687737861306743339697748175000155426289950838156926623463568790892430155801695274, 308))) (cond (Nat.blt y 275) ((6164199671256729363523805235514643856799789920311807953185224557128526392877302955480110464522122887738922, 44)) ((1578925553813946921850853858764791329901562709571228906651659791913212987085984306705122979469471851292670979, 45)))) (cond (Nat.blt y 278) (cond (Nat.blt y 277) ((1971974615586937560480611685646707525700400405155727503338202489627556481609917006952721203008785414338433951098541892268995945542698, 55)) ((208534963075137855178191914, 11))) (cond (Nat.blt y 279) ((8198426087899799234578582859803531744187807832359734065877060558848591388000541275107340305518146691447573559139013029731553624554130427297027, 59)) (cond (Nat.blt y 280) ((251929065953981905667165507641840275167865701533210, 21)) ((16475940162502259125913573381647018489226594408082512938, 23)))))) (cond (Nat.blt y 286) (cond (Nat.blt y 283) (cond (Nat.blt y 282) ((605959504404187294609664319532983234713243972806576488452419855878910406043166850080561916725346445950925831690167124847459452023071059127727764722805158640077085525408751725166969233031212896838719707538773426503055695958859520488335444292114919041331112342164104155260483258892257704794884645409445962665738217210103654530903474095228314808813889813943821211104070990047052569768860050914614380489008113150962817522084460054643903169159304892646845157820526012882485838200398417734916009034436453765902747350058, 213)) ((109861803373260042300326557662536456790421202224888888124272754055950489945515780909913582133950236095935801330748208983010591699802141099410268908130023071434890145836722949501259664369309787136134906939604952467436467509421633249064934692967659708374811155675963931834399535903116214869864526890, 123))) (cond (Nat.blt y 284) ((982051208903817379964558261923129435330033621802, 20)) (cond (Nat.blt y 285) ((912673846618784374109997834152255612814534212307645255175143577701321180008804696437069644144371049772173974305667067109021683495615869841432150120542955672676050066762804836014334898404529167774340279011847042008269992724175877995141440106494758386340281859207411286214208542528301072581819162910904157819483474298222382026028556514694999275544832680170369477692609695538472279511305277668597698110435893980794341309988472413821255553660449547169605462110695098621759551355340580512338249206007877006815246080254125049787141897705299422398148716974187524996611, 233)) ((403992434943507924956775521932721974982431909962797425313184678452831270087192926814308941571040050986711299114, 46))))) (cond (Nat.blt y 288) (cond (Nat.blt y 287) ((58534813457954965010846511053606462692138, 17)) ((156259952077622175748149969966077638572413440992255809149572320673787851158692359105909237028970128778344291021217892620951825612318531692757239978970984763163690, 67))) (cond (Nat.blt y 289) ((3067461176778360229766713375958702818480703242829015840640512444214762263346178793265321368327179879629707919985868226008905572714205231143481826243611907917699500369713164890629510448158096923, 80)) (cond (Nat.blt y 290) ((6164199671256794548676006924207738052897252556861370031010742317219327118449789548227425722488518438427434, 44)) ((536977524302984400981643861356280400072125269334447993373461303694459396750838523466955320502806552660847917089881505066065956437898713162483545130, 61))))))))))) (0, 0)
