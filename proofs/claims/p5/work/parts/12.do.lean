section IAD
variable {p : Program} {l : Launch} {e : Env} {R : Room} {s : State} {m : MethodId} {args : Array Value} {below : List Frame} {meth : Method} {c : Code} {Q : State → Prop}
variable {D : va_G} {sa : Nat × Nat} {A : Nat → Prop} {as0 : List Nat} {nL y pc : Nat} {lv : List (Option ia_V)} {st : List ia_V} {σ : ia_H} {n nc ns : Nat} {ih : ia_K} {out : ia_O} {d : Nat}
theorem ia_l64 (z : Int64) : Int64.ofNat z.toBitVec.toNat = z := by
  apply Int64.toBitVec_inj.mp
  apply BitVec.eq_of_toNat_eq
  show (BitVec.ofNat 64 z.toBitVec.toNat).toNat = _
  rw [BitVec.toNat_ofNat]
  exact Nat.mod_eq_of_lt z.toBitVec.isLt
theorem ia_l64mod (k : Nat) : Int64.ofNat (Nat.mod k 18446744073709551616) = Int64.ofNat k := by
  apply Int64.toBitVec_inj.mp
  apply BitVec.eq_of_toNat_eq
  show (BitVec.ofNat 64 (k % 18446744073709551616)).toNat = (BitVec.ofNat 64 k).toNat
  rw [BitVec.toNat_ofNat, BitVec.toNat_ofNat]
  omega
theorem ia_l64add (a b : Nat) : Int64.ofNat a + Int64.ofNat b = Int64.ofNat (Nat.mod (Nat.add a b) 18446744073709551616) := by
  rw [ia_l64mod]
  exact lN_add a b
theorem ia_l64mul (a b : Nat) : Int64.ofNat a * Int64.ofNat b = Int64.ofNat (Nat.mod (Nat.mul a b) 18446744073709551616) := by
  rw [ia_l64mod]
  exact lN_mul a b
set_option maxHeartbeats 4000000 in
set_option maxRecDepth 10000 in
theorem ia_s_do {call : Nat → List ia_V → ia_H → Nat → Option ia_O} (hM : ia_MetsC call d) (X : ia_X p R s m args meth c y d) (N : ia_N sa A s s.heap) (hA : ∀ q, s.heap.size ≤ q → A q) (hnL : nL = ia_maxL y) {ins : Instr} {len : Nat} (hdg : decode (ia_code y) pc = .ok (ins, len))
    (hend1 : decode (ia_code y) pc = .ok (.ireturn, 1) → ia_rt y st σ n = some out → ia_WW p l e R s m args below meth c Q D sa A as0 nL y pc lv st σ n nc ns) (hend2 : decode (ia_code y) pc = .ok (.lreturn, 1) → ia_rl y st σ n = some out → ia_WW p l e R s m args below meth c Q D sa A as0 nL y pc lv st σ n nc ns) (hend0 : decode (ia_code y) pc = .ok (.return_, 1) → ia_rv y st σ n = some out → ia_WW p l e R s m args below meth c Q D sa A as0 nL y pc lv st σ n nc ns)
    (ihk : ia_IH p l e R s m args below meth c Q D sa A as0 nL y ih out) (h : ia_do ins call y len ih pc lv st σ n nc ns = some out) : ia_WW p l e R s m args below meth c Q D sa A as0 nL y pc lv st σ n nc ns := by
  obtain ⟨hx, hb, hml, hown, hts, -⟩ := id X
  cases ins
  all_goals (try (cases (show (none : Option ia_O) = some out from h)))
  case iconst k =>
    replace h : (ia_if (Nat.beq len 1) (ia_pi ih (ia_E (Int32.ofInt k)) (Nat.add pc 1) lv st σ n nc ns)) = some out := h
    have hq := (ia_if_eq h).1
    replace h := (ia_if_eq h).2
    have hlen := ia_beq hq
    subst hlen
    rw [ia_pi_eq] at h
    exact ia_g_push (a := .inl (_, _)) (v := .int (Int32.ofInt k)) (fun ad => ia_v_one _ _ _) (fun H locs ls vst k' => lv_iconst hx hb hdg rfl k') (ihk _ _ _ _ _ _ _ h)
  case bipush k =>
    replace h : (ia_if (Nat.beq len 2) (ia_pi ih (ia_E (Int8.ofInt k).toInt32) (Nat.add pc 2) lv st σ n nc ns)) = some out := h
    have hq := (ia_if_eq h).1
    replace h := (ia_if_eq h).2
    have hlen := ia_beq hq
    subst hlen
    rw [ia_pi_eq] at h
    exact ia_g_push (a := .inl (_, _)) (v := .int (Int8.ofInt k).toInt32) (fun ad => ia_v_one _ _ _) (fun H locs ls vst k' => lv_bipush hx hb hdg rfl k') (ihk _ _ _ _ _ _ _ h)
  case sipush k =>
    replace h : (ia_if (Nat.beq len 3) (ia_pi ih (ia_E (Int16.ofInt k).toInt32) (Nat.add pc 3) lv st σ n nc ns)) = some out := h
    have hq := (ia_if_eq h).1
    replace h := (ia_if_eq h).2
    have hlen := ia_beq hq
    subst hlen
    rw [ia_pi_eq] at h
    exact ia_g_push (a := .inl (_, _)) (v := .int (Int16.ofInt k).toInt32) (fun ad => ia_v_one _ _ _) (fun H locs ls vst k' => lv_sipush hx hb hdg rfl k') (ihk _ _ _ _ _ _ _ h)
  case lconst k =>
    replace h : (ia_if (Nat.beq len 1) (ia_frc k.val (fun k => ia_nx ih (Nat.add pc 1) lv (.inr (.inl k) :: st) σ n nc ns))) = some out := h
    have hq := (ia_if_eq h).1
    replace h := (ia_if_eq h).2
    have hlen := ia_beq hq
    subst hlen
    rw [ia_frc_eq, ia_nx_eq] at h
    exact ia_g_push (a := .inr (.inl k.val)) (v := .long (Int64.ofNat k.val)) (fun ad => rfl) (fun H locs ls vst k' => lv_lconst hx hb hdg rfl k') (ihk _ _ _ _ _ _ _ h)
  case iload_n k =>
    replace h : (ia_if (Nat.beq len 1) (ia_ld 0 k.val 1 ih pc lv st σ n nc ns)) = some out := h
    have hq := (ia_if_eq h).1
    replace h := (ia_if_eq h).2
    have hlen := ia_beq hq
    subst hlen
    exact ia_g_ld (kd := 0) (fun v H locs ls vst hv hls kk => by obtain ⟨x, rfl⟩ := hv; exact lv_iload_n hx hb hdg rfl hls kk) ihk h
  case iload k =>
    replace h : (ia_if (Nat.beq len 2) (ia_ld 0 k 2 ih pc lv st σ n nc ns)) = some out := h
    have hq := (ia_if_eq h).1
    replace h := (ia_if_eq h).2
    have hlen := ia_beq hq
    subst hlen
    exact ia_g_ld (kd := 0) (fun v H locs ls vst hv hls kk => by obtain ⟨x, rfl⟩ := hv; exact lv_iload hx hb hdg hls kk) ihk h
  case lload_n k =>
    replace h : (ia_if (Nat.beq len 1) (ia_ld 1 k.val 1 ih pc lv st σ n nc ns)) = some out := h
    have hq := (ia_if_eq h).1
    replace h := (ia_if_eq h).2
    have hlen := ia_beq hq
    subst hlen
    exact ia_g_ld (kd := 1) (fun v H locs ls vst hv hls kk => by obtain ⟨x, rfl⟩ := hv; exact lv_lload_n hx hb hdg rfl hls kk) ihk h
  case aload_n k =>
    replace h : (ia_if (Nat.beq len 1) (ia_ld 2 k.val 1 ih pc lv st σ n nc ns)) = some out := h
    have hq := (ia_if_eq h).1
    replace h := (ia_if_eq h).2
    have hlen := ia_beq hq
    subst hlen
    exact ia_g_ld (kd := 2) (fun v H locs ls vst hv hls kk => by obtain ⟨x, rfl⟩ := hv; exact lv_aload_n hx hb hdg rfl hls kk) ihk h
  case aload k =>
    replace h : (ia_if (Nat.beq len 2) (ia_ld 2 k 2 ih pc lv st σ n nc ns)) = some out := h
    have hq := (ia_if_eq h).1
    replace h := (ia_if_eq h).2
    have hlen := ia_beq hq
    subst hlen
    exact ia_g_ld (kd := 2) (fun v H locs ls vst hv hls kk => by obtain ⟨x, rfl⟩ := hv; exact lv_aload hx hb hdg hls kk) ihk h
  case istore_n k =>
    replace h : (ia_if (Nat.beq len 1 && Nat.blt k.val (ia_maxL y)) (ia_sto 0 k.val 1 ih pc lv st σ n nc ns)) = some out := h
    have hq := (ia_if_eq h).1
    replace h := (ia_if_eq h).2
    rw [Bool.and_eq_true] at hq
    have hlen := ia_beq hq.1
    subst hlen
    have hlt := ia_blt hq.2
    rw [← hnL] at hlt
    exact ia_g_sto (kd := 0) (fun v l1 l2 H locs ls vst hv hl he kk => by obtain ⟨x, rfl⟩ := hv; exact lv_istore_n hx hb hdg rfl hl hlt he kk) ihk h
  case istore k =>
    replace h : (ia_if (Nat.beq len 2 && Nat.blt k (ia_maxL y)) (ia_sto 0 k 2 ih pc lv st σ n nc ns)) = some out := h
    have hq := (ia_if_eq h).1
    replace h := (ia_if_eq h).2
    rw [Bool.and_eq_true] at hq
    have hlen := ia_beq hq.1
    subst hlen
    have hlt := ia_blt hq.2
    rw [← hnL] at hlt
    exact ia_g_sto (kd := 0) (fun v l1 l2 H locs ls vst hv hl he kk => by obtain ⟨x, rfl⟩ := hv; exact lv_istore hx hb hdg hl hlt he kk) ihk h
  case astore_n k =>
    replace h : (ia_if (Nat.beq len 1 && Nat.blt k.val (ia_maxL y)) (ia_sto 2 k.val 1 ih pc lv st σ n nc ns)) = some out := h
    have hq := (ia_if_eq h).1
    replace h := (ia_if_eq h).2
    rw [Bool.and_eq_true] at hq
    have hlen := ia_beq hq.1
    subst hlen
    have hlt := ia_blt hq.2
    rw [← hnL] at hlt
    exact ia_g_sto (kd := 2) (fun v l1 l2 H locs ls vst hv hl he kk => by obtain ⟨x, rfl⟩ := hv; exact lv_astore_n hx hb hdg rfl hl hlt he kk) ihk h
  case lstore_n k =>
    replace h : (ia_if (Nat.beq len 1 && Nat.blt (Nat.succ k.val) (ia_maxL y)) (ia_stl k.val 1 ih pc lv st σ n nc ns)) = some out := h
    have hq := (ia_if_eq h).1
    replace h := (ia_if_eq h).2
    rw [Bool.and_eq_true] at hq
    have hlen := ia_beq hq.1
    subst hlen
    have hlt := ia_blt hq.2
    rw [← hnL] at hlt
    exact ia_g_stl (fun v l1 l2 H locs ls vst hl he kk => lv_lstore_n hx hb hdg rfl hl hlt he kk) ihk h
  case iinc k dd =>
    replace h : (ia_if (Nat.beq len 3 && Nat.blt k (ia_maxL y)) (match ia_at lv k with
      | some (some (.inl a)) => ia_if (Nat.beq a.1 a.2) (ia_frc (Nat.mod (Nat.add (Nat.add a.1 (ia_E (Int32.ofInt dd))) 2147483648) 4294967296) (fun r => ia_if (ia_nl lv k) (ia_setK lv k (some (.inl (r, r))) (fun lv => ia_nx ih (Nat.add pc 3) lv st σ n nc ns))))
      | _ => none)) = some out := h
    have hq := (ia_if_eq h).1
    replace h := (ia_if_eq h).2
    rw [Bool.and_eq_true] at hq
    have hlen := ia_beq hq.1
    subst hlen
    have hlt := ia_blt hq.2
    rw [← hnL] at hlt
    split at h
    · rename_i a ha
      rw [ia_at_eq] at ha
      have h3 := (ia_if_eq h).1
      replace h := (ia_if_eq h).2
      rw [ia_frc_eq] at h
      have h4 := (ia_if_eq h).1
      replace h := (ia_if_eq h).2
      rw [ia_setK_eq, ia_nx_eq] at h
      intro H locs ws tys ls l' vst hl hL hSt hK hP hD hS hn hR hxx h1 h2
      obtain ⟨v, g1, ⟨x, rfl, x1, x2⟩⟩ := hL k _ ha
      obtain ⟨t0, ht0⟩ := List.getElem?_of_mem g1
      have hE : ia_E x = a.1 := ia_one (ia_beq h3) x1 x2
      refine lv_iinc (k := t0) hx hb hdg hl ht0 rfl hlt rfl (fun ls' hl2 => ihk _ _ _ _ _ _ _ h H locs ws tys ls' _ vst hl2 (ia_L_set hL h4 ?_) hSt hK hP hD hS hn hR hxx h1 h2)
      rw [← hE, ← ia_Eadd]
      exact ia_v_one _ _ _
    · cases h
  case iadd =>
    replace h : (ia_if (Nat.beq len 1) (ia_bin (fun a b => Nat.mod (Nat.add (Nat.add a b) 2147483648) 4294967296) ih pc lv st σ n nc ns)) = some out := h
    have hq := (ia_if_eq h).1
    replace h := (ia_if_eq h).2
    have hlen := ia_beq hq
    subst hlen
    exact ia_g_bin (f := fun a b => Nat.mod (Nat.add (Nat.add a b) 2147483648) 4294967296) (op := fun x z => x + z) (fun x z => ia_Eadd x z) (fun _ => True) (fun _ _ _ _ _ _ => trivial) (fun x z H locs ls vst _ k => lv_iadd hx hb hdg k) ihk h
  case isub =>
    replace h : (ia_if (Nat.beq len 1) (ia_bin (fun a b => Nat.mod (Nat.sub (Nat.add a 6442450944) b) 4294967296) ih pc lv st σ n nc ns)) = some out := h
    have hq := (ia_if_eq h).1
    replace h := (ia_if_eq h).2
    have hlen := ia_beq hq
    subst hlen
    exact ia_g_bin (f := fun a b => Nat.mod (Nat.sub (Nat.add a 6442450944) b) 4294967296) (op := fun x z => x - z) (fun x z => ia_Esub x z) (fun _ => True) (fun _ _ _ _ _ _ => trivial) (fun x z H locs ls vst _ k => lv_isub hx hb hdg k) ihk h
  case imul =>
    replace h : (ia_if (Nat.beq len 1) (ia_bin (ia_op (fun x y => x * y)) ih pc lv st σ n nc ns)) = some out := h
    have hq := (ia_if_eq h).1
    replace h := (ia_if_eq h).2
    have hlen := ia_beq hq
    subst hlen
    exact ia_g_bin (op := fun x z => x * z) (ia_op_ok _) (fun _ => True) (fun _ _ _ _ _ _ => trivial) (fun x z H locs ls vst _ k => lv_imul hx hb hdg k) ihk h
  case iand =>
    replace h : (ia_if (Nat.beq len 1) (ia_bin (ia_op (fun x y => x &&& y)) ih pc lv st σ n nc ns)) = some out := h
    have hq := (ia_if_eq h).1
    replace h := (ia_if_eq h).2
    have hlen := ia_beq hq
    subst hlen
    exact ia_g_bin (op := fun x z => x &&& z) (ia_op_ok _) (fun _ => True) (fun _ _ _ _ _ _ => trivial) (fun x z H locs ls vst _ k => lv_iand hx hb hdg k) ihk h
  case ishl =>
    replace h : (ia_if (Nat.beq len 1) (ia_bin (ia_op (fun x y => x <<< (y &&& 31))) ih pc lv st σ n nc ns)) = some out := h
    have hq := (ia_if_eq h).1
    replace h := (ia_if_eq h).2
    have hlen := ia_beq hq
    subst hlen
    exact ia_g_bin (op := fun x z => x <<< (z &&& 31)) (ia_op_ok _) (fun _ => True) (fun _ _ _ _ _ _ => trivial) (fun x z H locs ls vst _ k => lv_ishl hx hb hdg k) ihk h
  case ishr =>
    replace h : (ia_if (Nat.beq len 1) (ia_bin (ia_op (fun x y => x >>> (y &&& 31))) ih pc lv st σ n nc ns)) = some out := h
    have hq := (ia_if_eq h).1
    replace h := (ia_if_eq h).2
    have hlen := ia_beq hq
    subst hlen
    exact ia_g_bin (op := fun x z => x >>> (z &&& 31)) (ia_op_ok _) (fun _ => True) (fun _ _ _ _ _ _ => trivial) (fun x z H locs ls vst _ k => lv_ishr hx hb hdg k) ihk h
  case iushr =>
    replace h : (ia_if (Nat.beq len 1) (ia_bin (ia_op (fun x y => (x.toUInt32 >>> (y.toUInt32 &&& Int32.toUInt32 31)).toInt32)) ih pc lv st σ n nc ns)) = some out := h
    have hq := (ia_if_eq h).1
    replace h := (ia_if_eq h).2
    have hlen := ia_beq hq
    subst hlen
    exact ia_g_bin (op := fun x z => (x.toUInt32 >>> (z.toUInt32 &&& Int32.toUInt32 31)).toInt32) (ia_op_ok _) (fun _ => True) (fun _ _ _ _ _ _ => trivial) (fun x z H locs ls vst _ k => lv_iushr hx hb hdg rfl k) ihk h
  case irem =>
    replace h : (ia_if (Nat.beq len 1) (match st with
      | .inl b :: _ => ia_if (Nat.beq b.1 b.2 && !(Nat.beq b.1 2147483648)) (ia_bin (ia_op (fun x y => x - x / y * y)) ih pc lv st σ n nc ns)
      | _ => none)) = some out := h
    have hq := (ia_if_eq h).1
    replace h := (ia_if_eq h).2
    have hlen := ia_beq hq
    subst hlen
    split at h
    · rename_i b t
      have hz := (ia_if_eq h).1
      replace h := (ia_if_eq h).2
      rw [Bool.and_eq_true] at hz
      have hz1 := ia_beq hz.1
      have hz2 : ¬ b.1 = 2147483648 := fun q => by
        have h9 := hz.2
        rw [q] at h9
        exact absurd h9 (by decide)
      exact ia_g_bin (op := fun x z => x - x / z * z) (ia_op_ok _) (fun z => ¬ z = 0) (fun b' t' e z z1 z2 => by cases e; intro q; rw [q, ia_E0] at z1 z2; omega) (fun x z H locs ls vst hne k => lv_irem hx hb hdg hne k) ihk h
    · cases h
  case idiv =>
    replace h : (ia_if (Nat.beq len 1) (match st with
      | .inl b :: _ => ia_if (Nat.beq b.1 b.2 && !(Nat.beq b.1 2147483648)) (ia_bin (ia_op (fun x y => x / y)) ih pc lv st σ n nc ns)
      | _ => none)) = some out := h
    have hq := (ia_if_eq h).1
    replace h := (ia_if_eq h).2
    have hlen := ia_beq hq
    subst hlen
    split at h
    · rename_i b t
      have hz := (ia_if_eq h).1
      replace h := (ia_if_eq h).2
      rw [Bool.and_eq_true] at hz
      have hz1 := ia_beq hz.1
      have hz2 : ¬ b.1 = 2147483648 := fun q => by
        have h9 := hz.2
        rw [q] at h9
        exact absurd h9 (by decide)
      exact ia_g_bin (op := fun x z => x / z) (ia_op_ok _) (fun z => ¬ z = 0) (fun b' t' e z z1 z2 => by cases e; intro q; rw [q, ia_E0] at z1 z2; omega) (fun x z H locs ls vst hne k => lv_idiv hx hb hdg hne k) ihk h
    · cases h
  case ior =>
    replace h : (ia_if (Nat.beq len 1) (ia_bin (ia_op (fun x y => x ||| y)) ih pc lv st σ n nc ns)) = some out := h
    have hq := (ia_if_eq h).1
    replace h := (ia_if_eq h).2
    have hlen := ia_beq hq
    subst hlen
    exact ia_g_bin (op := fun x z => x ||| z) (ia_op_ok _) (fun _ => True) (fun _ _ _ _ _ _ => trivial) (fun x z H locs ls vst _ k => lv_ior hx hb hdg k) ihk h
  case ixor =>
    replace h : (ia_if (Nat.beq len 1) (ia_bin (ia_op (fun x y => x ^^^ y)) ih pc lv st σ n nc ns)) = some out := h
    have hq := (ia_if_eq h).1
    replace h := (ia_if_eq h).2
    have hlen := ia_beq hq
    subst hlen
    exact ia_g_bin (op := fun x z => x ^^^ z) (ia_op_ok _) (fun _ => True) (fun _ _ _ _ _ _ => trivial) (fun x z H locs ls vst _ k => lv_ixor hx hb hdg k) ihk h
  case lcmp =>
    replace h : (ia_if (Nat.beq len 1) (match st with
      | .inr (.inl b) :: .inr (.inl a) :: t => ia_pi ih (ia_E (lg_cmp (Int64.ofNat a) (Int64.ofNat b))) (Nat.add pc 1) lv t σ n nc ns
      | _ => none)) = some out := h
    have hq := (ia_if_eq h).1
    replace h := (ia_if_eq h).2
    have hlen := ia_beq hq
    subst hlen
    split at h
    · rename_i b a t
      rw [ia_pi_eq] at h
      intro H locs ws tys ls l' vst hl hL hSt hK hP hD hS hn hR hxx h1 h2
      obtain ⟨_, _, rfl, hv1, _, vt, rfl, hv2, g3⟩ := hSt
      cases hv1
      cases hv2
      exact W.lcmp hx hb hdg (ihk _ _ _ _ _ _ _ h H locs ws tys ls l' _ hl hL ⟨_, _, rfl, ia_v_one _ _ _, g3⟩ hK hP hD hS hn hR hxx h1 h2)
    · cases h
  case lor =>
    replace h : (ia_if (Nat.beq len 1) (match st with
      | .inr (.inl b) :: .inr (.inl a) :: t => ia_frc (Int64.ofNat a ||| Int64.ofNat b).toBitVec.toNat (fun r => ia_nx ih (Nat.add pc 1) lv (.inr (.inl r) :: t) σ n nc ns)
      | _ => none)) = some out := h
    have hq := (ia_if_eq h).1
    replace h := (ia_if_eq h).2
    have hlen := ia_beq hq
    subst hlen
    split at h
    · rename_i b a t
      rw [ia_frc_eq, ia_nx_eq] at h
      intro H locs ws tys ls l' vst hl hL hSt hK hP hD hS hn hR hxx h1 h2
      obtain ⟨_, _, rfl, hv1, _, vt, rfl, hv2, g3⟩ := hSt
      cases hv1
      cases hv2
      exact lv_lor hx hb hdg (ihk _ _ _ _ _ _ _ h H locs ws tys ls l' _ hl hL ⟨_, _, rfl, congrArg Value.long (ia_l64 _).symm, g3⟩ hK hP hD hS hn hR hxx h1 h2)
    · cases h
  case lshl =>
    replace h : (ia_if (Nat.beq len 1) (match st with
      | .inl b :: .inr (.inl a) :: t => ia_if (Nat.beq b.1 b.2) (ia_frc (Int64.ofNat a <<< ((ia_D b.1).toInt64 &&& 63)).toBitVec.toNat (fun r => ia_nx ih (Nat.add pc 1) lv (.inr (.inl r) :: t) σ n nc ns))
      | _ => none)) = some out := h
    have hq := (ia_if_eq h).1
    replace h := (ia_if_eq h).2
    have hlen := ia_beq hq
    subst hlen
    split at h
    · rename_i b a t
      have hz := (ia_if_eq h).1
      replace h := (ia_if_eq h).2
      rw [ia_frc_eq, ia_nx_eq] at h
      intro H locs ws tys ls l' vst hl hL hSt hK hP hD hS hn hR hxx h1 h2
      obtain ⟨_, _, rfl, ⟨x, rfl, x1, x2⟩, _, vt, rfl, hv2, g3⟩ := hSt
      cases hv2
      rw [← ia_one (ia_beq hz) x1 x2, ia_DE] at h
      exact lv_lshl hx hb hdg rfl (ihk _ _ _ _ _ _ _ h H locs ws tys ls l' _ hl hL ⟨_, _, rfl, congrArg Value.long (ia_l64 _).symm, g3⟩ hK hP hD hS hn hR hxx h1 h2)
    · cases h
  case lookupswitch df ps =>
    replace h : ia_lks df ps ih pc lv st σ n nc ns = some out := h
    unfold ia_lks at h
    split at h
    · rename_i a t
      have hz := (ia_if_eq h).1
      replace h := (ia_if_eq h).2
      rw [Bool.and_eq_true] at hz
      intro H locs ws tys ls l' vst hl hL hSt hK hP hD hS hn hR hxx h1 h2
      obtain ⟨_, vt, rfl, ⟨x, rfl, x1, x2⟩, g3⟩ := hSt
      have hE : ia_E x = a.1 := ia_one (ia_beq hz.1) x1 x2
      obtain ⟨t', ht, hw⟩ := ia_jmp_ok ihk h
      refine lv_lookup hx hb hdg hz.2 ?_ ht (hw H locs ws tys ls l' _ hl hL g3 hK hP hD hS hn hR hxx h1 h2)
      rw [ia_toInt x, hE]
      rfl
    · cases h
  case astore k =>
    replace h : (ia_if (Nat.beq len 2 && Nat.blt k (ia_maxL y)) (ia_sto 2 k 2 ih pc lv st σ n nc ns)) = some out := h
    have hq := (ia_if_eq h).1
    replace h := (ia_if_eq h).2
    rw [Bool.and_eq_true] at hq
    have hlen := ia_beq hq.1
    subst hlen
    have hlt := ia_blt hq.2
    rw [← hnL] at hlt
    exact ia_g_sto (kd := 2) (fun v l1 l2 H locs ls vst hv hl he kk => by obtain ⟨x, rfl⟩ := hv; exact lv_astore hx hb hdg hl hlt he kk) ihk h
  case i2b =>
    replace h : (ia_if (Nat.beq len 1) (ia_un (fun a => ia_E (ia_D a).toInt8.toInt32) ih pc lv st σ n nc ns)) = some out := h
    have hq := (ia_if_eq h).1
    replace h := (ia_if_eq h).2
    have hlen := ia_beq hq
    subst hlen
    exact ia_g_un (op := fun x => x.toInt8.toInt32) (fun x => by rw [ia_DE]) (fun x H locs ls vst k => lv_i2b hx hb hdg rfl k) ihk h
  case i2l =>
    replace h : (ia_if (Nat.beq len 1) (match st with
      | .inl a :: t => ia_if (Nat.beq a.1 a.2) (ia_frc (ia_D a.1).toInt64.toBitVec.toNat (fun r => ia_nx ih (Nat.add pc 1) lv (.inr (.inl r) :: t) σ n nc ns))
      | _ => none)) = some out := h
    have hq := (ia_if_eq h).1
    replace h := (ia_if_eq h).2
    have hlen := ia_beq hq
    subst hlen
    split at h
    · rename_i a t
      have hz := (ia_if_eq h).1
      replace h := (ia_if_eq h).2
      rw [ia_frc_eq, ia_nx_eq] at h
      intro H locs ws tys ls l' vst hl hL hSt hK hP hD hS hn hR hxx h1 h2
      obtain ⟨_, vt, rfl, ⟨x, rfl, x1, x2⟩, g3⟩ := hSt
      refine lv_i2l hx hb hdg rfl (ihk _ _ _ _ _ _ _ h H locs ws tys ls l' _ hl hL ⟨_, _, rfl, ?_, g3⟩ hK hP hD hS hn hR hxx h1 h2)
      rw [← ia_one (ia_beq hz) x1 x2, ia_DE]
      exact congrArg Value.long (ia_l64 _).symm
    · cases h
  case ladd =>
    replace h : (ia_if (Nat.beq len 1) (match st with
      | .inr (.inl b) :: .inr (.inl a) :: t => ia_frc (Nat.mod (Nat.add a b) 18446744073709551616) (fun r => ia_nx ih (Nat.add pc 1) lv (.inr (.inl r) :: t) σ n nc ns)
      | _ => none)) = some out := h
    have hq := (ia_if_eq h).1
    replace h := (ia_if_eq h).2
    have hlen := ia_beq hq
    subst hlen
    split at h
    · rename_i b a t
      rw [ia_frc_eq, ia_nx_eq] at h
      intro H locs ws tys ls l' vst hl hL hSt hK hP hD hS hn hR hxx h1 h2
      obtain ⟨_, _, rfl, hv1, _, vt, rfl, hv2, g3⟩ := hSt
      cases hv1
      cases hv2
      exact lv_ladd hx hb hdg (ihk _ _ _ _ _ _ _ h H locs ws tys ls l' _ hl hL ⟨_, _, rfl, congrArg Value.long (ia_l64add a b), g3⟩ hK hP hD hS hn hR hxx h1 h2)
    · cases h
  case lmul =>
    replace h : (ia_if (Nat.beq len 1) (match st with
      | .inr (.inl b) :: .inr (.inl a) :: t => ia_frc (Nat.mod (Nat.mul a b) 18446744073709551616) (fun r => ia_nx ih (Nat.add pc 1) lv (.inr (.inl r) :: t) σ n nc ns)
      | _ => none)) = some out := h
    have hq := (ia_if_eq h).1
    replace h := (ia_if_eq h).2
    have hlen := ia_beq hq
    subst hlen
    split at h
    · rename_i b a t
      rw [ia_frc_eq, ia_nx_eq] at h
      intro H locs ws tys ls l' vst hl hL hSt hK hP hD hS hn hR hxx h1 h2
      obtain ⟨_, _, rfl, hv1, _, vt, rfl, hv2, g3⟩ := hSt
      cases hv1
      cases hv2
      exact lv_lmul hx hb hdg (ihk _ _ _ _ _ _ _ h H locs ws tys ls l' _ hl hL ⟨_, _, rfl, congrArg Value.long (ia_l64mul a b), g3⟩ hK hP hD hS hn hR hxx h1 h2)
    · cases h
  case dup =>
    replace h : (ia_if (Nat.beq len 1) (match st with
      | a :: t => ia_if (Nat.beq (ia_cat a) 1) (ia_nx ih (Nat.add pc 1) lv (a :: a :: t) σ n nc ns)
      | _ => none)) = some out := h
    have hq := (ia_if_eq h).1
    replace h := (ia_if_eq h).2
    have hlen := ia_beq hq
    subst hlen
    split at h
    · rename_i a t
      have hz := (ia_if_eq h).1
      replace h := (ia_if_eq h).2
      rw [ia_nx_eq] at h
      intro H locs ws tys ls l' vst hl hL hSt hK hP hD hS hn hR hxx h1 h2
      obtain ⟨v, vt, rfl, g2, g3⟩ := hSt
      exact lv_dup hx hb hdg (by rw [ia_vcat g2, ia_beq hz]) (ihk _ _ _ _ _ _ _ h H locs ws tys ls l' _ hl hL ⟨_, _, rfl, g2, _, _, rfl, g2, g3⟩ hK hP hD hS hn hR hxx h1 h2)
    · cases h
  case dup2 =>
    replace h : (ia_if (Nat.beq len 1) (match st with
      | a :: b :: t => ia_if (Nat.beq (ia_cat a) 1 && Nat.beq (ia_cat b) 1) (ia_nx ih (Nat.add pc 1) lv (a :: b :: a :: b :: t) σ n nc ns)
      | _ => none)) = some out := h
    have hq := (ia_if_eq h).1
    replace h := (ia_if_eq h).2
    have hlen := ia_beq hq
    subst hlen
    split at h
    · rename_i a b t
      have hz := (ia_if_eq h).1
      replace h := (ia_if_eq h).2
      rw [Bool.and_eq_true] at hz
      rw [ia_nx_eq] at h
      intro H locs ws tys ls l' vst hl hL hSt hK hP hD hS hn hR hxx h1 h2
      obtain ⟨v, _, rfl, g2, w, vt, rfl, g4, g3⟩ := hSt
      exact lv_dup2_11 hx hb hdg (by rw [ia_vcat g2, ia_beq hz.1]) (by rw [ia_vcat g4, ia_beq hz.2]) (ihk _ _ _ _ _ _ _ h H locs ws tys ls l' _ hl hL ⟨_, _, rfl, g2, _, _, rfl, g4, _, _, rfl, g2, _, _, rfl, g4, g3⟩ hK hP hD hS hn hR hxx h1 h2)
    · cases h
  case pop =>
    replace h : (ia_if (Nat.beq len 1) (match st with
      | a :: t => ia_if (Nat.beq (ia_cat a) 1) (ia_nx ih (Nat.add pc 1) lv t σ n nc ns)
      | _ => none)) = some out := h
    have hq := (ia_if_eq h).1
    replace h := (ia_if_eq h).2
    have hlen := ia_beq hq
    subst hlen
    split at h
    · rename_i a t
      have hz := (ia_if_eq h).1
      replace h := (ia_if_eq h).2
      rw [ia_nx_eq] at h
      intro H locs ws tys ls l' vst hl hL hSt hK hP hD hS hn hR hxx h1 h2
      obtain ⟨v, vt, rfl, g2, g3⟩ := hSt
      exact lv_pop hx hb hdg (by rw [ia_vcat g2, ia_beq hz]) (ihk _ _ _ _ _ _ _ h H locs ws tys ls l' _ hl hL g3 hK hP hD hS hn hR hxx h1 h2)
    · cases h
  case ifCond k o =>
    replace h : (ia_if (Nat.beq len 3) (match st with
      | .inl a :: t => ia_br (ia_cmp k a (2147483648, 2147483648)) o ih pc lv t σ n nc ns
      | _ => none)) = some out := h
    have hq := (ia_if_eq h).1
    replace h := (ia_if_eq h).2
    have hlen := ia_beq hq
    subst hlen
    split at h
    · rename_i a t
      obtain ⟨t', ht, hb3⟩ := ia_br_ok ihk h
      intro H locs ws tys ls l' vst hl hL hSt hK hP hD hS hn hR hxx h1 h2
      obtain ⟨_, vt, rfl, ⟨x, rfl, x1, x2⟩, g3⟩ := hSt
      have z1 : ((2147483648, 2147483648) : Nat × Nat).1 ≤ ia_E (0 : Int32) := by rw [ia_E0]; exact Nat.le_refl _
      have z2 : ia_E (0 : Int32) ≤ ((2147483648, 2147483648) : Nat × Nat).2 := by rw [ia_E0]; exact Nat.le_refl _
      have gt : ∀ t' : Nat, ia_WW p l e R s m args below meth c Q D sa A as0 nL y t' lv t σ n nc ns → W p l e R s m args below meth c H locs nc ns Q (F0 m t' ls vt) := fun t' hw => hw H locs ws tys ls l' _ hl hL g3 hK hP hD hS hn hR hxx h1 h2
      rcases hb3 with ⟨hr, hw⟩ | ⟨hr, hw⟩
      · have hrel := (ia_cmp_ok hr x1 x2 z1 z2).1 rfl
        cases k
        · exact lv_if_eq hx hb hdg ht (fun _ => gt _ hw) (fun q => absurd hrel q)
        · exact lv_if_ne hx hb hdg ht (fun _ => gt _ hw) (fun q => absurd q hrel)
        · exact lv_if_lt hx hb hdg ht (fun _ => gt _ hw) (fun q => absurd hrel q)
        · exact lv_if_ge hx hb hdg ht (fun _ => gt _ hw) (fun q => absurd hrel q)
        · exact lv_if_gt hx hb hdg ht (fun _ => gt _ hw) (fun q => absurd hrel q)
        · exact lv_if_le hx hb hdg ht (fun _ => gt _ hw) (fun q => absurd hrel q)
      · have hrel := (ia_cmp_ok hr x1 x2 z1 z2).2 rfl
        cases k
        · exact lv_if_eq hx hb hdg ht (fun q => absurd q hrel) (fun _ => gt _ hw)
        · exact lv_if_ne hx hb hdg ht (fun q => absurd q hrel) (fun _ => gt _ hw)
        · exact lv_if_lt hx hb hdg ht (fun q => absurd q hrel) (fun _ => gt _ hw)
        · exact lv_if_ge hx hb hdg ht (fun q => absurd q hrel) (fun _ => gt _ hw)
        · exact lv_if_gt hx hb hdg ht (fun q => absurd q hrel) (fun _ => gt _ hw)
        · exact lv_if_le hx hb hdg ht (fun q => absurd q hrel) (fun _ => gt _ hw)
    · cases h
  case if_icmp k o =>
    replace h : (ia_if (Nat.beq len 3) (match st with
      | .inl b :: .inl a :: t => ia_br (ia_cmp k a b) o ih pc lv t σ n nc ns
      | _ => none)) = some out := h
    have hq := (ia_if_eq h).1
    replace h := (ia_if_eq h).2
    have hlen := ia_beq hq
    subst hlen
    split at h
    · rename_i b a t
      obtain ⟨t', ht, hb3⟩ := ia_br_ok ihk h
      intro H locs ws tys ls l' vst hl hL hSt hK hP hD hS hn hR hxx h1 h2
      obtain ⟨_, _, rfl, ⟨z, rfl, z1, z2⟩, _, vt, rfl, ⟨x, rfl, x1, x2⟩, g3⟩ := hSt
      have gt : ∀ t' : Nat, ia_WW p l e R s m args below meth c Q D sa A as0 nL y t' lv t σ n nc ns → W p l e R s m args below meth c H locs nc ns Q (F0 m t' ls vt) := fun t' hw => hw H locs ws tys ls l' _ hl hL g3 hK hP hD hS hn hR hxx h1 h2
      rcases hb3 with ⟨hr, hw⟩ | ⟨hr, hw⟩
      · have hrel := (ia_cmp_ok hr x1 x2 z1 z2).1 rfl
        cases k
        · exact lv_icmp_eq hx hb hdg ht (fun _ => gt _ hw) (fun q => absurd hrel q)
        · exact lv_icmp_ne hx hb hdg ht (fun _ => gt _ hw) (fun q => absurd q hrel)
        · exact lv_icmp_lt hx hb hdg ht (fun _ => gt _ hw) (fun q => absurd hrel q)
        · exact lv_icmp_ge hx hb hdg ht (fun _ => gt _ hw) (fun q => absurd hrel q)
        · exact lv_icmp_gt hx hb hdg ht (fun _ => gt _ hw) (fun q => absurd hrel q)
        · exact lv_icmp_le hx hb hdg ht (fun _ => gt _ hw) (fun q => absurd hrel q)
      · have hrel := (ia_cmp_ok hr x1 x2 z1 z2).2 rfl
        cases k
        · exact lv_icmp_eq hx hb hdg ht (fun q => absurd q hrel) (fun _ => gt _ hw)
        · exact lv_icmp_ne hx hb hdg ht (fun q => absurd q hrel) (fun _ => gt _ hw)
        · exact lv_icmp_lt hx hb hdg ht (fun q => absurd q hrel) (fun _ => gt _ hw)
        · exact lv_icmp_ge hx hb hdg ht (fun q => absurd q hrel) (fun _ => gt _ hw)
        · exact lv_icmp_gt hx hb hdg ht (fun q => absurd q hrel) (fun _ => gt _ hw)
        · exact lv_icmp_le hx hb hdg ht (fun q => absurd q hrel) (fun _ => gt _ hw)
    · cases h
  case goto o =>
    replace h : (ia_if (Nat.beq len 3) (ia_jmp o ih pc lv st σ n nc ns)) = some out := h
    have hq := (ia_if_eq h).1
    replace h := (ia_if_eq h).2
    have hlen := ia_beq hq
    subst hlen
    obtain ⟨t', ht, hw⟩ := ia_jmp_ok ihk h
    intro H locs ws tys ls l' vst hl hL hSt hK hP hD hS hn hR hxx h1 h2
    exact lv_goto hx hb hdg ht (hw H locs ws tys ls l' _ hl hL hSt hK hP hD hS hn hR hxx h1 h2)
  case tableswitch df lo hi os =>
    replace h : (ia_sw df lo hi os ih pc lv st σ n nc ns) = some out := h
    unfold ia_sw at h
    split at h
    · rename_i a t
      intro H locs ws tys ls l' vst hl hL hSt hK hP hD hS hn hR hxx h1 h2
      obtain ⟨_, vt, rfl, ⟨x, rfl, x1, x2⟩, g3⟩ := hSt
      have hxi := ia_toInt x
      split at h
      · rename_i hz
        rw [Bool.or_eq_true, decide_eq_true_eq, decide_eq_true_eq] at hz
        obtain ⟨t', ht, hw⟩ := ia_jmp_ok ihk h
        refine lv_tableOut hx hb hdg ?_ ht (hw H locs ws tys ls l' _ hl hL g3 hK hP hD hS hn hR hxx h1 h2)
        rcases hz with hz | hz
        · left; have : Int.ofNat a.2 = (a.2 : Int) := rfl; omega
        · right; have : Int.ofNat a.1 = (a.1 : Int) := rfl; omega
      · rename_i hz
        rw [Bool.or_eq_false_iff, decide_eq_false_iff_not, decide_eq_false_iff_not] at hz
        split at h
        · rename_i he
          have hE : ia_E x = a.1 := ia_one (ia_beq he) x1 x2
          have he' := ia_beq he
          split at h
          · rename_i o ho
            obtain ⟨t', ht, hw⟩ := ia_jmp_ok ihk h
            rw [ia_at_eq] at ho
            have hxo : x.toInt - lo = Int.ofNat a.1 - 2147483648 - lo := by rw [hxi, hE]; rfl
            have q1 : Int.ofNat a.1 = (a.1 : Int) := rfl
            have q2 : Int.ofNat a.2 = (a.2 : Int) := rfl
            refine lv_tableIn hx hb hdg (by omega) (by omega) ?_ ht (hw H locs ws tys ls l' _ hl hL g3 hK hP hD hS hn hR hxx h1 h2)
            rw [hxo, ← Array.getElem?_toList]
            exact ho
          · cases h
        · cases h
    · cases h
  case getfield k =>
    replace h : (ia_if (Nat.beq len 3) (ia_frc k (fun k => ia_gf y k ih pc lv st σ n nc ns))) = some out := h
    have hq := (ia_if_eq h).1
    replace h := (ia_if_eq h).2
    have hlen := ia_beq hq
    subst hlen
    rw [ia_frc_eq] at h
    exact ia_s_gf X N hdg ihk h
  case putfield k =>
    replace h : (ia_if (Nat.beq len 3) (ia_frc k (fun k => ia_pf y k ih pc lv st σ n nc ns))) = some out := h
    have hq := (ia_if_eq h).1
    replace h := (ia_if_eq h).2
    have hlen := ia_beq hq
    subst hlen
    rw [ia_frc_eq] at h
    exact ia_s_pf X hdg ihk h
  case getstatic k =>
    replace h : (ia_if (Nat.beq len 3) (ia_frc k (fun k => ia_gs y k ih pc lv st σ n nc ns))) = some out := h
    have hq := (ia_if_eq h).1
    replace h := (ia_if_eq h).2
    have hlen := ia_beq hq
    subst hlen
    rw [ia_frc_eq] at h
    exact ia_s_gs X N hdg ihk h
  case i2c =>
    replace h : (ia_if (Nat.beq len 1) (ia_un (fun a => ia_E ((ia_D a).toUInt32 % 65536).toInt32) ih pc lv st σ n nc ns)) = some out := h
    have hq := (ia_if_eq h).1
    replace h := (ia_if_eq h).2
    have hlen := ia_beq hq
    subst hlen
    exact ia_g_un (op := fun x => (x.toUInt32 % 65536).toInt32) (fun x => by rw [ia_DE]) (fun x H locs ls vst k => lv_i2c hx hb hdg rfl k) ihk h
  case iaload =>
    replace h : (ia_if (Nat.beq len 1) (ia_al 50 ih pc lv st σ n nc ns)) = some out := h
    have hq := (ia_if_eq h).1
    replace h := (ia_if_eq h).2
    have hlen := ia_beq hq
    subst hlen
    exact ia_s_ald X hdg (Or.inl ⟨rfl, rfl⟩) ihk h
  case laload =>
    replace h : (ia_if (Nat.beq len 1) (ia_al 51 ih pc lv st σ n nc ns)) = some out := h
    have hq := (ia_if_eq h).1
    replace h := (ia_if_eq h).2
    have hlen := ia_beq hq
    subst hlen
    exact ia_s_ald X hdg (Or.inr (Or.inl ⟨rfl, rfl⟩)) ihk h
  case baload =>
    replace h : (ia_if (Nat.beq len 1) (ia_alb ih pc lv st σ n nc ns)) = some out := h
    have hq := (ia_if_eq h).1
    replace h := (ia_if_eq h).2
    have hlen := ia_beq hq
    subst hlen
    exact ia_s_bld X N hdg ihk h
  case aaload =>
    replace h : (ia_if (Nat.beq len 1) (match st with
      | _ :: .inr (.inr (.inl (some k))) :: _ => (match ia_get2 σ k with
        | some c => (match Nat.beq c.1 54 with
          | true => ia_al 54 ih pc lv st σ n nc ns
          | false => ia_al 55 ih pc lv st σ n nc ns)
        | none => none)
      | _ => none)) = some out := h
    have hq := (ia_if_eq h).1
    replace h := (ia_if_eq h).2
    have hlen := ia_beq hq
    subst hlen
    split at h
    · split at h
      · split at h
        · exact ia_s_ald X hdg (Or.inr (Or.inr (Or.inr (Or.inl ⟨rfl, rfl⟩)))) ihk h
        · exact ia_s_ald X hdg (Or.inr (Or.inr (Or.inr (Or.inr (Or.inl ⟨rfl, rfl⟩))))) ihk h
      · cases h
    · cases h
  case iastore =>
    replace h : (ia_if (Nat.beq len 1) (ia_as 50 ia_gi ih pc lv st σ n nc ns)) = some out := h
    have hq := (ia_if_eq h).1
    replace h := (ia_if_eq h).2
    have hlen := ia_beq hq
    subst hlen
    exact ia_s_ast X hdg (Or.inl ⟨rfl, rfl, rfl⟩) ihk h
  case lastore =>
    replace h : (ia_if (Nat.beq len 1) (ia_as 51 ia_gl ih pc lv st σ n nc ns)) = some out := h
    have hq := (ia_if_eq h).1
    replace h := (ia_if_eq h).2
    have hlen := ia_beq hq
    subst hlen
    exact ia_s_ast X hdg (Or.inr (Or.inl ⟨rfl, rfl, rfl⟩)) ihk h
  case bastore =>
    replace h : (ia_if (Nat.beq len 1) (match st with
      | _ :: _ :: .inr (.inr (.inl (some k))) :: _ => (match ia_get2 σ k with
        | some c => (match Nat.beq c.1 52 with
          | true => ia_as 52 (ia_gn .byte) ih pc lv st σ n nc ns
          | false => ia_as 53 (ia_gn .boolean) ih pc lv st σ n nc ns)
        | none => none)
      | _ => none)) = some out := h
    have hq := (ia_if_eq h).1
    replace h := (ia_if_eq h).2
    have hlen := ia_beq hq
    subst hlen
    split at h
    · split at h
      · split at h
        · exact ia_s_ast X hdg (Or.inr (Or.inr (Or.inl ⟨rfl, rfl, rfl⟩))) ihk h
        · exact ia_s_ast X hdg (Or.inr (Or.inr (Or.inr (Or.inl ⟨rfl, rfl, rfl⟩)))) ihk h
      · cases h
    · cases h
  case aastore =>
    replace h : (ia_if (Nat.beq len 1) (match st with
      | _ :: _ :: .inr (.inr (.inl (some k))) :: _ => (match ia_get2 σ k with
        | some c => (match Nat.beq c.1 54 with
          | true => ia_as 54 (ia_gr σ 3) ih pc lv st σ n nc ns
          | false => ia_as 55 (ia_gr σ 7) ih pc lv st σ n nc ns)
        | none => none)
      | _ => none)) = some out := h
    have hq := (ia_if_eq h).1
    replace h := (ia_if_eq h).2
    have hlen := ia_beq hq
    subst hlen
    split at h
    · split at h
      · split at h
        · exact ia_s_ast X hdg (Or.inr (Or.inr (Or.inr (Or.inr (Or.inl ⟨rfl, rfl, rfl⟩))))) ihk h
        · exact ia_s_ast X hdg (Or.inr (Or.inr (Or.inr (Or.inr (Or.inr ⟨rfl, rfl, rfl⟩))))) ihk h
      · cases h
    · cases h
  case arraylength =>
    replace h : (ia_if (Nat.beq len 1) (ia_len ih pc lv st σ n nc ns)) = some out := h
    have hq := (ia_if_eq h).1
    replace h := (ia_if_eq h).2
    have hlen := ia_beq hq
    subst hlen
    exact ia_s_len X N hdg ihk h
  case new k =>
    replace h : (ia_if (Nat.beq len 3) (ia_frc k (fun k => ia_no y k ih pc lv st σ n nc ns))) = some out := h
    have hq := (ia_if_eq h).1
    replace h := (ia_if_eq h).2
    have hlen := ia_beq hq
    subst hlen
    rw [ia_frc_eq] at h
    exact ia_s_no X hA hdg ihk h
  case newarray t =>
    replace h : (ia_if (Nat.beq len 2) (ia_new y t ih pc lv st σ n nc ns)) = some out := h
    have hq := (ia_if_eq h).1
    replace h := (ia_if_eq h).2
    have hlen := ia_beq hq
    subst hlen
    cases t
    · exact ia_s_newp X hA hdg (Or.inr (Or.inr ⟨rfl, rfl⟩)) ihk h
    · cases (show (none : Option ia_O) = some out from h)
    · cases (show (none : Option ia_O) = some out from h)
    · cases (show (none : Option ia_O) = some out from h)
    · exact ia_s_newp X hA hdg (Or.inr (Or.inl ⟨rfl, rfl⟩)) ihk h
    · cases (show (none : Option ia_O) = some out from h)
    · exact ia_s_newp X hA hdg (Or.inl ⟨rfl, rfl⟩) ihk h
    · exact ia_s_newl X hA hdg ihk h
  case anewarray k =>
    replace h : (ia_if (Nat.beq len 3) (ia_frc k (fun k => ia_nr1 y k ih pc lv st σ n nc ns))) = some out := h
    have hq := (ia_if_eq h).1
    replace h := (ia_if_eq h).2
    have hlen := ia_beq hq
    subst hlen
    rw [ia_frc_eq] at h
    exact ia_s_newr X N hA hdg ihk h
  case ldc k =>
    replace h : (ia_if (Nat.beq len 2) (ia_frc k (fun k => ia_cst y k 2 ih pc lv st σ n nc ns))) = some out := h
    have hq := (ia_if_eq h).1
    replace h := (ia_if_eq h).2
    have hlen := ia_beq hq
    subst hlen
    rw [ia_frc_eq] at h
    exact ia_s_cst X N hdg (Or.inl ⟨rfl, rfl⟩) ihk h
  case ldc_w k =>
    replace h : (ia_if (Nat.beq len 3) (ia_frc k (fun k => ia_cst y k 3 ih pc lv st σ n nc ns))) = some out := h
    have hq := (ia_if_eq h).1
    replace h := (ia_if_eq h).2
    have hlen := ia_beq hq
    subst hlen
    rw [ia_frc_eq] at h
    exact ia_s_cst X N hdg (Or.inr ⟨rfl, rfl⟩) ihk h
  case ldc2_w k =>
    replace h : (ia_if (Nat.beq len 3) (ia_frc k (fun k => ia_csl y k ih pc lv st σ n nc ns))) = some out := h
    have hq := (ia_if_eq h).1
    replace h := (ia_if_eq h).2
    have hlen := ia_beq hq
    subst hlen
    rw [ia_frc_eq] at h
    exact ia_s_csl X hdg ihk h
  case invokevirtual k =>
    replace h : (ia_if (Nat.beq len 3) (ia_frc k (fun k => ia_inv call y 0 k ih pc lv st σ n nc ns))) = some out := h
    have hq := (ia_if_eq h).1
    replace h := (ia_if_eq h).2
    have hlen := ia_beq hq
    subst hlen
    rw [ia_frc_eq] at h
    exact ia_s_inv hM X N hA hnL hdg (Or.inl ⟨rfl, rfl⟩) ihk h
  case invokestatic k =>
    replace h : (ia_if (Nat.beq len 3) (ia_frc k (fun k => ia_inv call y 1 k ih pc lv st σ n nc ns))) = some out := h
    have hq := (ia_if_eq h).1
    replace h := (ia_if_eq h).2
    have hlen := ia_beq hq
    subst hlen
    rw [ia_frc_eq] at h
    exact ia_s_inv hM X N hA hnL hdg (Or.inr (Or.inl ⟨rfl, rfl⟩)) ihk h
  case invokespecial k =>
    replace h : (ia_if (Nat.beq len 3) (ia_frc k (fun k => ia_inv call y 2 k ih pc lv st σ n nc ns))) = some out := h
    have hq := (ia_if_eq h).1
    replace h := (ia_if_eq h).2
    have hlen := ia_beq hq
    subst hlen
    rw [ia_frc_eq] at h
    exact ia_s_inv hM X N hA hnL hdg (Or.inr (Or.inr ⟨rfl, rfl⟩)) ihk h
  case ireturn =>
    replace h : (ia_if (Nat.beq len 1) (ia_rt y st σ n)) = some out := h
    have hq := (ia_if_eq h).1
    replace h := (ia_if_eq h).2
    have hlen := ia_beq hq
    subst hlen
    exact hend1 hdg h
  case lreturn =>
    replace h : (ia_if (Nat.beq len 1) (ia_rl y st σ n)) = some out := h
    have hq := (ia_if_eq h).1
    replace h := (ia_if_eq h).2
    have hlen := ia_beq hq
    subst hlen
    exact hend2 hdg h
  case return_ =>
    replace h : (ia_if (Nat.beq len 1) (ia_rv y st σ n)) = some out := h
    have hq := (ia_if_eq h).1
    replace h := (ia_if_eq h).2
    have hlen := ia_beq hq
    subst hlen
    exact hend0 hdg h
end IAD
