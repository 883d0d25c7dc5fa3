/-! ## walking a method of the plain machine by hand: a row an instruction -/
section WK
variable {C : Nat → List cm_V → cm_W → cm_O → Prop} {y pc : Nat} {lv : cm_L} {st : List cm_V} {w : cm_W} {Q : cm_O → Prop}
theorem wk_iconst {c : Int} (hd : decode (ia_code y) pc = .ok (.iconst c, 1)) (k : cm_X C y (pc + 1) lv (.inl (Int32.ofInt c) :: st) w Q) : cm_X C y pc lv st w Q := cm_X_do (q := (pc + 1, lv, .inl (Int32.ofInt c) :: st, w)) hd rfl k
theorem wk_bipush {c : Int} (hd : decode (ia_code y) pc = .ok (.bipush c, 2)) (k : cm_X C y (pc + 2) lv (.inl (Int8.ofInt c).toInt32 :: st) w Q) : cm_X C y pc lv st w Q := cm_X_do (q := (pc + 2, lv, .inl (Int8.ofInt c).toInt32 :: st, w)) hd rfl k
theorem wk_sipush {c : Int} (hd : decode (ia_code y) pc = .ok (.sipush c, 3)) (k : cm_X C y (pc + 3) lv (.inl (Int16.ofInt c).toInt32 :: st) w Q) : cm_X C y pc lv st w Q := cm_X_do (q := (pc + 3, lv, .inl (Int16.ofInt c).toInt32 :: st, w)) hd rfl k
theorem wk_ld {i : Nat} {v : cm_V} {kd ln : Nat} {ins : Instr} (hd : decode (ia_code y) pc = .ok (ins, ln)) (hi : cm_do y pc ins ln lv st w = cm_ld kd i ln pc lv st w) (hv : ia_at lv i = some (some v)) (hk : ia_kd kd (cm_e v) = true) (k : cm_X C y (pc + ln) lv (v :: st) w Q) : cm_X C y pc lv st w Q := by
  refine cm_X_do (q := (pc + ln, lv, v :: st, w)) hd ?_ k
  rw [hi]
  unfold cm_ld
  rw [hv]
  exact cm_ifk hk rfl
theorem wk_iload_n {i : Fin 4} {x : Int32} (hd : decode (ia_code y) pc = .ok (.iload_n i, 1)) (hv : ia_at lv i.val = some (some (.inl x))) (k : cm_X C y (pc + 1) lv (.inl x :: st) w Q) : cm_X C y pc lv st w Q := wk_ld (kd := 0) hd rfl hv rfl k
theorem wk_iload {i : Nat} {x : Int32} (hd : decode (ia_code y) pc = .ok (.iload i, 2)) (hv : ia_at lv i = some (some (.inl x))) (k : cm_X C y (pc + 2) lv (.inl x :: st) w Q) : cm_X C y pc lv st w Q := wk_ld (kd := 0) hd rfl hv rfl k
theorem wk_aload_n {i : Fin 4} {r : Nat} (hd : decode (ia_code y) pc = .ok (.aload_n i, 1)) (hv : ia_at lv i.val = some (some (.inr (.inr (some r))))) (k : cm_X C y (pc + 1) lv (.inr (.inr (some r)) :: st) w Q) : cm_X C y pc lv st w Q := wk_ld (kd := 2) hd rfl hv rfl k
/-- the local may be written: no long ends there -/
noncomputable def wk_nl (lv : cm_L) (i : Nat) : Bool := ia_nl (cm_el lv) i
theorem wk_sto {i kd ln : Nat} {v : cm_V} {ins : Instr} (hd : decode (ia_code y) pc = .ok (ins, ln)) (hi : cm_do y pc ins ln lv (v :: st) w = ia_if (Nat.blt i (ia_maxL y)) (cm_sto kd i ln pc lv (v :: st) w)) (hm : Nat.blt i (ia_maxL y) = true) (hk : ia_kd kd (cm_e v) = true) (hn : ia_nl (cm_el lv) i = true) (k : cm_X C y (pc + ln) (lv.set i (some v)) st w Q) : cm_X C y pc lv (v :: st) w Q := by
  refine cm_X_do (q := (pc + ln, lv.set i (some v), st, w)) hd ?_ k
  rw [hi]
  refine cm_ifk hm ?_
  exact cm_ifk (by rw [hk, hn]; rfl) rfl
theorem wk_istore_n {i : Fin 4} {x : Int32} (hd : decode (ia_code y) pc = .ok (.istore_n i, 1)) (hm : Nat.blt i.val (ia_maxL y) = true) (hn : ia_nl (cm_el lv) i.val = true) (k : cm_X C y (pc + 1) (lv.set i.val (some (.inl x))) st w Q) : cm_X C y pc lv (.inl x :: st) w Q := wk_sto (kd := 0) hd rfl hm rfl hn k
theorem wk_istore {i : Nat} {x : Int32} (hd : decode (ia_code y) pc = .ok (.istore i, 2)) (hm : Nat.blt i (ia_maxL y) = true) (hn : ia_nl (cm_el lv) i = true) (k : cm_X C y (pc + 2) (lv.set i (some (.inl x))) st w Q) : cm_X C y pc lv (.inl x :: st) w Q := wk_sto (kd := 0) hd rfl hm rfl hn k
theorem wk_iinc {i : Nat} {d : Int} {x : Int32} (hd : decode (ia_code y) pc = .ok (.iinc i d, 3)) (hm : Nat.blt i (ia_maxL y) = true) (hn : ia_nl (cm_el lv) i = true) (hv : ia_at lv i = some (some (.inl x))) (k : cm_X C y (pc + 3) (lv.set i (some (.inl (x + Int32.ofInt d)))) st w Q) : cm_X C y pc lv st w Q := by
  refine cm_X_do (q := (pc + 3, lv.set i (some (.inl (x + Int32.ofInt d))), st, w)) hd ?_ k
  show ia_if (Nat.beq 3 3 && Nat.blt i (ia_maxL y)) (match ia_at lv i with
    | some (some (.inl a)) => ia_if (ia_nl (cm_el lv) i) (cm_nx (Nat.add pc 3) (lv.set i (some (.inl (a + Int32.ofInt d)))) st w)
    | _ => none) = _
  refine cm_ifk (by rw [hm]; rfl) ?_
  rw [hv]
  exact cm_ifk hn rfl
theorem wk_iadd {x z : Int32} (hd : decode (ia_code y) pc = .ok (.iadd, 1)) (k : cm_X C y (pc + 1) lv (.inl (x + z) :: st) w Q) : cm_X C y pc lv (.inl z :: .inl x :: st) w Q := cm_X_do (q := (pc + 1, lv, .inl (x + z) :: st, w)) hd rfl k
theorem wk_isub {x z : Int32} (hd : decode (ia_code y) pc = .ok (.isub, 1)) (k : cm_X C y (pc + 1) lv (.inl (x - z) :: st) w Q) : cm_X C y pc lv (.inl z :: .inl x :: st) w Q := cm_X_do (q := (pc + 1, lv, .inl (x - z) :: st, w)) hd rfl k
theorem wk_imul {x z : Int32} (hd : decode (ia_code y) pc = .ok (.imul, 1)) (k : cm_X C y (pc + 1) lv (.inl (x * z) :: st) w Q) : cm_X C y pc lv (.inl z :: .inl x :: st) w Q := cm_X_do (q := (pc + 1, lv, .inl (x * z) :: st, w)) hd rfl k
theorem wk_iand {x z : Int32} (hd : decode (ia_code y) pc = .ok (.iand, 1)) (k : cm_X C y (pc + 1) lv (.inl (x &&& z) :: st) w Q) : cm_X C y pc lv (.inl z :: .inl x :: st) w Q := cm_X_do (q := (pc + 1, lv, .inl (x &&& z) :: st, w)) hd rfl k
theorem wk_ishr {x z : Int32} (hd : decode (ia_code y) pc = .ok (.ishr, 1)) (k : cm_X C y (pc + 1) lv (.inl (x >>> (z &&& 31)) :: st) w Q) : cm_X C y pc lv (.inl z :: .inl x :: st) w Q := cm_X_do (q := (pc + 1, lv, .inl (x >>> (z &&& 31)) :: st, w)) hd rfl k
theorem wk_iushr {x z : Int32} (hd : decode (ia_code y) pc = .ok (.iushr, 1)) (k : cm_X C y (pc + 1) lv (.inl ((x.toUInt32 >>> (z.toUInt32 &&& Int32.toUInt32 31)).toInt32) :: st) w Q) : cm_X C y pc lv (.inl z :: .inl x :: st) w Q := cm_X_do (q := (pc + 1, lv, .inl ((x.toUInt32 >>> (z.toUInt32 &&& Int32.toUInt32 31)).toInt32) :: st, w)) hd rfl k
theorem wk_idiv {x z : Int32} (hd : decode (ia_code y) pc = .ok (.idiv, 1)) (hz : z ≠ 0) (k : cm_X C y (pc + 1) lv (.inl (x / z) :: st) w Q) : cm_X C y pc lv (.inl z :: .inl x :: st) w Q := cm_X_do (q := (pc + 1, lv, .inl (x / z) :: st, w)) hd (cm_ifk (by rw [decide_eq_false hz]; rfl) rfl) k
theorem wk_irem {x z : Int32} (hd : decode (ia_code y) pc = .ok (.irem, 1)) (hz : z ≠ 0) (k : cm_X C y (pc + 1) lv (.inl (x - x / z * z) :: st) w Q) : cm_X C y pc lv (.inl z :: .inl x :: st) w Q := cm_X_do (q := (pc + 1, lv, .inl (x - x / z * z) :: st, w)) hd (cm_ifk (by rw [decide_eq_false hz]; rfl) rfl) k
theorem wk_i2b {x : Int32} (hd : decode (ia_code y) pc = .ok (.i2b, 1)) (k : cm_X C y (pc + 1) lv (.inl x.toInt8.toInt32 :: st) w Q) : cm_X C y pc lv (.inl x :: st) w Q := cm_X_do (q := (pc + 1, lv, .inl x.toInt8.toInt32 :: st, w)) hd rfl k
theorem wk_dup_r {r : Nat} (hd : decode (ia_code y) pc = .ok (.dup, 1)) (k : cm_X C y (pc + 1) lv (.inr (.inr (some r)) :: .inr (.inr (some r)) :: st) w Q) : cm_X C y pc lv (.inr (.inr (some r)) :: st) w Q := cm_X_do (q := (pc + 1, lv, .inr (.inr (some r)) :: .inr (.inr (some r)) :: st, w)) hd rfl k
theorem wk_dup2 {x : Int32} {r : Nat} (hd : decode (ia_code y) pc = .ok (.dup2, 1)) (k : cm_X C y (pc + 1) lv (.inl x :: .inr (.inr (some r)) :: .inl x :: .inr (.inr (some r)) :: st) w Q) : cm_X C y pc lv (.inl x :: .inr (.inr (some r)) :: st) w Q := cm_X_do (q := (pc + 1, lv, .inl x :: .inr (.inr (some r)) :: .inl x :: .inr (.inr (some r)) :: st, w)) hd rfl k
theorem wk_pop {x : Int32} (hd : decode (ia_code y) pc = .ok (.pop, 1)) (k : cm_X C y (pc + 1) lv st w Q) : cm_X C y pc lv (.inl x :: st) w Q := cm_X_do (q := (pc + 1, lv, st, w)) hd rfl k
theorem wk_goto {o : Int} {t : Nat} (hd : decode (ia_code y) pc = .ok (.goto o, 3)) (ht : Int.add (Int.ofNat pc) o = .ofNat t) (k : cm_X C y t lv st w Q) : cm_X C y pc lv st w Q := by
  refine cm_X_do (q := (t, lv, st, w)) hd ?_ k
  show cm_jmp o pc lv st w = _
  unfold cm_jmp
  rw [ht]
  rfl
theorem wk_br {r : Bool} {o : Int} {t : Nat} {ins : Instr} {st' : List cm_V} (hd : decode (ia_code y) pc = .ok (ins, 3)) (hi : cm_do y pc ins 3 lv st w = cm_br r o pc lv st' w) (ht : Int.add (Int.ofNat pc) o = .ofNat t) (k1 : r = true → cm_X C y t lv st' w Q) (k2 : r = false → cm_X C y (pc + 3) lv st' w Q) : cm_X C y pc lv st w Q := by
  cases r with
  | true =>
    refine cm_X_do (q := (t, lv, st', w)) hd ?_ (k1 rfl)
    rw [hi]
    unfold cm_br
    rw [ht]
    rfl
  | false =>
    refine cm_X_do (q := (pc + 3, lv, st', w)) hd ?_ (k2 rfl)
    rw [hi]
    unfold cm_br
    rw [ht]
    rfl
theorem wk_if {c : ClassFile.Cond} {o : Int} {t : Nat} {x : Int32} (hd : decode (ia_code y) pc = .ok (.ifCond c o, 3)) (ht : Int.add (Int.ofNat pc) o = .ofNat t) (k1 : cm_cmp c x 0 = true → cm_X C y t lv st w Q) (k2 : cm_cmp c x 0 = false → cm_X C y (pc + 3) lv st w Q) : cm_X C y pc lv (.inl x :: st) w Q := wk_br hd rfl ht k1 k2
theorem wk_icmp {c : ClassFile.Cond} {o : Int} {t : Nat} {x z : Int32} (hd : decode (ia_code y) pc = .ok (.if_icmp c o, 3)) (ht : Int.add (Int.ofNat pc) o = .ofNat t) (k1 : cm_cmp c x z = true → cm_X C y t lv st w Q) (k2 : cm_cmp c x z = false → cm_X C y (pc + 3) lv st w Q) : cm_X C y pc lv (.inl z :: .inl x :: st) w Q := wk_br hd rfl ht k1 k2
/-- a field: what it is, decided -/
noncomputable def wk_gf (y i n sl z : Nat) : Bool := match ia_pl (ia_cls y) i with
  | some (0, ci, s, _, _) => Nat.beq s sl && (match cm_sh n with
    | some c => Nat.beq c.1 ci && (Nat.blt sl c.2.1 && Nat.beq (cm_code c sl) z)
    | none => false)
  | _ => false
theorem wk_gf_ok {i n sl z : Nat} (hg : wk_gf y i n sl z = true) (hd : decode (ia_code y) pc = .ok (.getfield i, 3)) (k : cm_X C y (pc + 3) lv (cm_v w n sl z :: st) w Q) : cm_X C y pc lv (.inr (.inr (some n)) :: st) w Q := by
  unfold wk_gf at hg
  split at hg
  · rename_i ci s z1 z2 hpl
    rw [Bool.and_eq_true] at hg
    have e := ia_beq hg.1
    subst e
    have hg2 := hg.2
    split at hg2
    · rename_i c hc
      simp only [Bool.and_eq_true] at hg2
      refine cm_X_do (q := (pc + 3, lv, cm_v w n s z :: st, w)) hd ?_ k
      show (match ia_pl (ia_cls y) i with
        | some (0, ci, sl, _, _) => (match cm_sh n with
          | some c => ia_if (Nat.beq c.1 ci && Nat.blt sl c.2.1) (cm_nx (Nat.add pc 3) lv (cm_v w n sl (cm_code c sl) :: st) w)
          | none => none)
        | _ => none) = _
      rw [hpl]
      show (match cm_sh n with
          | some c => ia_if (Nat.beq c.1 ci && Nat.blt s c.2.1) (cm_nx (Nat.add pc 3) lv (cm_v w n s (cm_code c s) :: st) w)
          | none => none) = _
      rw [hc]
      refine cm_ifk (by rw [hg2.1, hg2.2.1]; rfl) ?_
      rw [ia_beq hg2.2.2]
      rfl
    · cases hg2
  · cases hg
theorem wk_getI {i n sl : Nat} (hg : wk_gf y i n sl 0 = true) (hd : decode (ia_code y) pc = .ok (.getfield i, 3)) (k : cm_X C y (pc + 3) lv (.inl (w.1 n sl) :: st) w Q) : cm_X C y pc lv (.inr (.inr (some n)) :: st) w Q := wk_gf_ok hg hd k
theorem wk_getR {i n sl r : Nat} (hg : wk_gf y i n sl (r + 3) = true) (hd : decode (ia_code y) pc = .ok (.getfield i, 3)) (k : cm_X C y (pc + 3) lv (.inr (.inr (some r)) :: st) w Q) : cm_X C y pc lv (.inr (.inr (some n)) :: st) w Q := wk_gf_ok hg hd k
noncomputable def wk_pf (y i n sl kd : Nat) : Bool := match ia_pl (ia_cls y) i with
  | some (0, ci, s, k, _) => (Nat.beq s sl && Nat.beq k kd) && (match cm_sh n with
    | some c => Nat.beq c.1 ci && (Nat.blt sl c.2.1 && Nat.beq (cm_code c sl) 0)
    | none => false)
  | _ => false
theorem wk_putI {i n sl kd : Nat} {x : Int32} (hg : wk_pf y i n sl kd = true) (hfit : ∀ ci, ia_fit y ci kd (cm_e (.inl x)) = true) (hd : decode (ia_code y) pc = .ok (.putfield i, 3)) (k : cm_X C y (pc + 3) lv st (cm_u1 w n sl x) Q) : cm_X C y pc lv (.inl x :: .inr (.inr (some n)) :: st) w Q := by
  unfold wk_pf at hg
  split at hg
  · rename_i ci s k0 z2 hpl
    simp only [Bool.and_eq_true] at hg
    have e := ia_beq hg.1.1
    have e2 := ia_beq hg.1.2
    subst e
    subst e2
    have hg2 := hg.2
    split at hg2
    · rename_i c hc
      simp only [Bool.and_eq_true] at hg2
      refine cm_X_do (q := (pc + 3, lv, st, cm_u1 w n s x)) hd ?_ k
      show (match ia_pl (ia_cls y) i with
        | some (0, ci, sl, kd, _) => (match cm_sh n with
          | some c => ia_if (Nat.beq c.1 ci && (ia_fit y ci kd (cm_e (.inl x)) && Nat.blt sl c.2.1)) (match cm_put w n sl (cm_code c sl) (.inl x) with
            | some w' => cm_nx (Nat.add pc 3) lv st w'
            | none => none)
          | none => none)
        | _ => none) = _
      rw [hpl]
      show (match cm_sh n with
          | some c => ia_if (Nat.beq c.1 ci && (ia_fit y ci k0 (cm_e (.inl x)) && Nat.blt s c.2.1)) (match cm_put w n s (cm_code c s) (.inl x) with
            | some w' => cm_nx (Nat.add pc 3) lv st w'
            | none => none)
          | none => none) = _
      rw [hc]
      refine cm_ifk (by rw [hg2.1, hfit, hg2.2.1]; rfl) ?_
      rw [ia_beq hg2.2.2]
      rfl
    · cases hg2
  · cases hg
theorem wk_fitI {x : Int32} (ci : Nat) : ia_fit y ci 0 (cm_e (.inl x)) = true := rfl
/-- an array of ints: its kind and length -/
noncomputable def wk_ar (n tg len : Nat) : Bool := match cm_sh n with
  | some c => Nat.beq c.1 tg && (Nat.beq c.2.1 len && (c.2.2.isEmpty && !(Nat.beq tg 51)))
  | none => false
theorem wk_in {x : Int32} {len : Nat} (h1 : 0 ≤ x.toInt) (h2 : x.toInt < len) : cm_in x len = true := by
  unfold cm_in
  rw [decide_eq_true h1]
  exact Nat.ble_eq.mpr (show x.toInt.toNat < len from by omega)
theorem wk_al {n tg len : Nat} {x : Int32} {ins : Instr} (hg : wk_ar n tg len = true) (h1 : 0 ≤ x.toInt) (h2 : x.toInt < len) (hd : decode (ia_code y) pc = .ok (ins, 1)) (hi : cm_do y pc ins 1 lv (.inl x :: .inr (.inr (some n)) :: st) w = cm_al tg pc lv (.inl x :: .inr (.inr (some n)) :: st) w) (k : cm_X C y (pc + 1) lv (.inl (w.1 n x.toInt.toNat) :: st) w Q) : cm_X C y pc lv (.inl x :: .inr (.inr (some n)) :: st) w Q := by
  unfold wk_ar at hg
  split at hg
  · rename_i c hc
    simp only [Bool.and_eq_true] at hg
    obtain ⟨g1, g2, g3, g4⟩ := hg
    have e2 := ia_beq g2
    refine cm_X_do (q := (pc + 1, lv, .inl (w.1 n x.toInt.toNat) :: st, w)) hd ?_ k
    rw [hi]
    unfold cm_al
    show (match cm_sh n with
      | some c => ia_if (Nat.beq c.1 tg && cm_in x c.2.1) (cm_nx (Nat.add pc 1) lv (cm_v w n x.toInt.toNat (cm_code c x.toInt.toNat) :: st) w)
      | none => none) = _
    rw [hc]
    refine cm_ifk (by rw [g1, e2, wk_in h1 h2]; rfl) ?_
    rw [sv_code0 g3 (fun z => by
      have e1 := ia_beq g1
      rw [← e1, z] at g4
      exact absurd g4 (by decide))]
    rfl
  · cases hg
theorem wk_as {n tg len : Nat} {x z : Int32} {g : Int32 → Int32} {ins : Instr} (hg : wk_ar n tg len = true) (h1 : 0 ≤ x.toInt) (h2 : x.toInt < len) (hd : decode (ia_code y) pc = .ok (ins, 1)) (hi : cm_do y pc ins 1 lv (.inl z :: .inl x :: .inr (.inr (some n)) :: st) w = cm_as tg g pc lv (.inl z :: .inl x :: .inr (.inr (some n)) :: st) w) (k : cm_X C y (pc + 1) lv st (cm_u1 w n x.toInt.toNat (g z)) Q) : cm_X C y pc lv (.inl z :: .inl x :: .inr (.inr (some n)) :: st) w Q := by
  unfold wk_ar at hg
  split at hg
  · rename_i c hc
    simp only [Bool.and_eq_true] at hg
    obtain ⟨g1, g2, g3, g4⟩ := hg
    have e2 := ia_beq g2
    refine cm_X_do (q := (pc + 1, lv, st, cm_u1 w n x.toInt.toNat (g z))) hd ?_ k
    rw [hi]
    unfold cm_as
    show (match cm_sh n with
      | some c => ia_if (Nat.beq c.1 tg && (cm_in x c.2.1 && Nat.beq (cm_code c x.toInt.toNat) 0)) (cm_nx (Nat.add pc 1) lv st (cm_u1 w n x.toInt.toNat (g z)))
      | none => none) = _
    rw [hc]
    refine cm_ifk (by
      rw [g1, e2, wk_in h1 h2, sv_code0 g3 (fun z => by
        have e1 := ia_beq g1
        rw [← e1, z] at g4
        exact absurd g4 (by decide))]
      rfl) rfl
  · cases hg
theorem wk_iaload {n len : Nat} {x : Int32} (hg : wk_ar n 50 len = true) (h1 : 0 ≤ x.toInt) (h2 : x.toInt < len) (hd : decode (ia_code y) pc = .ok (.iaload, 1)) (k : cm_X C y (pc + 1) lv (.inl (w.1 n x.toInt.toNat) :: st) w Q) : cm_X C y pc lv (.inl x :: .inr (.inr (some n)) :: st) w Q := wk_al hg h1 h2 hd rfl k
theorem wk_iastore {n len : Nat} {x z : Int32} (hg : wk_ar n 50 len = true) (h1 : 0 ≤ x.toInt) (h2 : x.toInt < len) (hd : decode (ia_code y) pc = .ok (.iastore, 1)) (k : cm_X C y (pc + 1) lv st (cm_u1 w n x.toInt.toNat z) Q) : cm_X C y pc lv (.inl z :: .inl x :: .inr (.inr (some n)) :: st) w Q := wk_as (g := fun x => x) hg h1 h2 hd rfl k
/-- a call, by a contract of the callee -/
theorem wk_call {kd i y2 : Nat} {ins : Instr} {as t : List cm_V} {r : Option cm_V} {w' : cm_W} (hd : decode (ia_code y) pc = .ok (ins, 3)) (hi : cm_call y ins 3 st = cm_cal y kd i st) (hc : cm_cal y kd i st = some (y2, as, t)) (hC : C y2 as w (r, w')) (k : cm_X C y (pc + 3) lv (cm_back r t) w' Q) : cm_X C y pc lv st w Q := cm_X_call hd (hi.trans hc) hC k
theorem wk_ireturn {x : Int32} {ty : FieldType} (hd : decode (ia_code y) pc = .ok (.ireturn, 1)) (hty : ia_ret y = some ty) (hn : ia_nar ty (ia_E x) = true) (k : Q (some (.inl x), w)) : cm_X C y pc lv [.inl x] w Q := by
  refine cm_X_ret hd ?_ k
  show (match ia_ret y with
    | some ty => ia_if (ia_nar ty (ia_E x)) (some (some (Sum.inl x : cm_V)))
    | none => none) = _
  rw [hty]
  exact cm_ifk hn rfl
theorem wk_return (hd : decode (ia_code y) pc = .ok (.return_, 1)) (hty : ia_ret y = none) (k : Q (none, w)) : cm_X C y pc lv [] w Q := by
  refine cm_X_ret hd ?_ k
  show (match ia_ret y with
    | none => some none
    | some _ => none) = _
  rw [hty]
/-- a walk from the entry is a call -/
theorem wk_entry {d : Nat} {as : List cm_V} (hs : ia_sz (cm_es as) ≤ ia_maxL y) (h : cm_X (cm_C d) y 0 (cm_ent y as) [] w Q) : ∃ o, cm_C (d + 1) y as w o ∧ Q o := by
  obtain ⟨F, o, h1, h2⟩ := h
  exact ⟨o, Or.inr ⟨hs, F, h1⟩, h2⟩
end WK
theorem wk_cmp_eq {x z : Int32} {b : Bool} (h : cm_cmp .eq x z = b) : (b = true → x = z) ∧ (b = false → x ≠ z) := by
  unfold cm_cmp at h
  exact ⟨fun e => of_decide_eq_true (h.trans e), fun e => of_decide_eq_false (h.trans e)⟩
