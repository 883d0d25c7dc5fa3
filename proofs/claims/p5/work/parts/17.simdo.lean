section CMT
variable {call : Nat → List ia_V → ia_H → Nat → Option ia_O} {ih : ia_K} {y pc pc' len n : Nat} {lv lv' : cm_L} {st st' : List cm_V} {w w' : cm_W}
theorem cm_ifk {α : Type} {b : Bool} {x : Option α} {z : Option α} (hb : b = true) (h : x = z) : ia_if b x = z := by
  subst hb
  exact h
theorem cm_l1 (a : Fin 2) : (Int64.ofNat a.val).toBitVec.toNat = a.val := by
  show (BitVec.ofNat 64 a.val).toNat = _
  rw [BitVec.toNat_ofNat]
  omega
theorem cm_l2 {v : Nat} (h : v < 18446744073709551616) : (Int64.ofNat v).toBitVec.toNat = v := by
  show (BitVec.ofNat 64 v).toNat = _
  rw [BitVec.toNat_ofNat]
  omega
theorem cm_l3 (a b : Int64) : Nat.mod (Nat.add a.toBitVec.toNat b.toBitVec.toNat) 18446744073709551616 = (a + b).toBitVec.toNat := by
  show (a.toBitVec.toNat + b.toBitVec.toNat) % 18446744073709551616 = (a.toBitVec + b.toBitVec).toNat
  rw [BitVec.toNat_add]
theorem cm_l4 (a b : Int64) : Nat.mod (Nat.mul a.toBitVec.toNat b.toBitVec.toNat) 18446744073709551616 = (a * b).toBitVec.toNat := by
  show (a.toBitVec.toNat * b.toBitVec.toNat) % 18446744073709551616 = (a.toBitVec * b.toBitVec).toNat
  rw [BitVec.toNat_mul]
theorem cm_nz {b : Int32} (h : (!(decide (b = 0))) = true) : (Nat.beq (ia_E b) (ia_E b) && !(Nat.beq (ia_E b) 2147483648)) = true := by
  rw [cm_bq]
  cases hz : Nat.beq (ia_E b) 2147483648 with
  | false => rfl
  | true =>
    have h1 : b = 0 := ia_E_inj (by rw [ia_E0]; exact ia_beq hz)
    rw [h1] at h
    exact absurd h (by decide)
set_option maxHeartbeats 4000000 in
set_option maxRecDepth 10000 in
theorem cm_sim1 {ins : Instr} (h : cm_do y pc ins len lv st w = some (pc', lv', st', w')) : ia_do ins call y len ih pc (cm_el lv) (cm_es st) (cm_s w) n 0 0 = ih pc' (cm_el lv') (cm_es st') (cm_s w') n 0 0 := by
  cases ins
  all_goals (try (cases (show (none : Option cm_A) = some (pc', lv', st', w') from h)))
  case iconst k =>
    have hq := (ia_if_eq (show ia_if _ _ = some _ from h)).1
    replace h := (ia_if_eq (show ia_if _ _ = some _ from h)).2
    obtain ⟨rfl, rfl, rfl, rfl⟩ := cm_nx_inj h
    exact cm_ifk hq (ia_pi_eq _ _ _ _ _ _ _ _ _)
  case bipush k =>
    have hq := (ia_if_eq (show ia_if _ _ = some _ from h)).1
    replace h := (ia_if_eq (show ia_if _ _ = some _ from h)).2
    obtain ⟨rfl, rfl, rfl, rfl⟩ := cm_nx_inj h
    exact cm_ifk hq (ia_pi_eq _ _ _ _ _ _ _ _ _)
  case sipush k =>
    have hq := (ia_if_eq (show ia_if _ _ = some _ from h)).1
    replace h := (ia_if_eq (show ia_if _ _ = some _ from h)).2
    obtain ⟨rfl, rfl, rfl, rfl⟩ := cm_nx_inj h
    exact cm_ifk hq (ia_pi_eq _ _ _ _ _ _ _ _ _)
  case lconst k =>
    have hq := (ia_if_eq (show ia_if _ _ = some _ from h)).1
    replace h := (ia_if_eq (show ia_if _ _ = some _ from h)).2
    obtain ⟨rfl, rfl, rfl, rfl⟩ := cm_nx_inj h
    refine cm_ifk hq ?_
    rw [ia_frc_eq, ia_nx_eq]
    show _ = ih _ _ (.inr (.inl (Int64.ofNat k.val).toBitVec.toNat) :: cm_es st) _ _ _ _
    rw [cm_l1]
  case iload_n k =>
    have hq := (ia_if_eq (show ia_if _ _ = some _ from h)).1
    replace h := (ia_if_eq (show ia_if _ _ = some _ from h)).2
    exact cm_ifk hq (cm_ldk h)
  case iload k =>
    have hq := (ia_if_eq (show ia_if _ _ = some _ from h)).1
    replace h := (ia_if_eq (show ia_if _ _ = some _ from h)).2
    exact cm_ifk hq (cm_ldk h)
  case lload_n k =>
    have hq := (ia_if_eq (show ia_if _ _ = some _ from h)).1
    replace h := (ia_if_eq (show ia_if _ _ = some _ from h)).2
    exact cm_ifk hq (cm_ldk h)
  case aload_n k =>
    have hq := (ia_if_eq (show ia_if _ _ = some _ from h)).1
    replace h := (ia_if_eq (show ia_if _ _ = some _ from h)).2
    exact cm_ifk hq (cm_ldk h)
  case aload k =>
    have hq := (ia_if_eq (show ia_if _ _ = some _ from h)).1
    replace h := (ia_if_eq (show ia_if _ _ = some _ from h)).2
    exact cm_ifk hq (cm_ldk h)
  case istore_n k =>
    have hq := (ia_if_eq (show ia_if _ _ = some _ from h)).1
    replace h := (ia_if_eq (show ia_if _ _ = some _ from h)).2
    exact cm_ifk hq (cm_stok h)
  case istore k =>
    have hq := (ia_if_eq (show ia_if _ _ = some _ from h)).1
    replace h := (ia_if_eq (show ia_if _ _ = some _ from h)).2
    exact cm_ifk hq (cm_stok h)
  case astore_n k =>
    have hq := (ia_if_eq (show ia_if _ _ = some _ from h)).1
    replace h := (ia_if_eq (show ia_if _ _ = some _ from h)).2
    exact cm_ifk hq (cm_stok h)
  case astore k =>
    have hq := (ia_if_eq (show ia_if _ _ = some _ from h)).1
    replace h := (ia_if_eq (show ia_if _ _ = some _ from h)).2
    exact cm_ifk hq (cm_stok h)
  case lstore_n k =>
    have hq := (ia_if_eq (show ia_if _ _ = some _ from h)).1
    replace h := (ia_if_eq (show ia_if _ _ = some _ from h)).2
    exact cm_ifk hq (cm_stlk h)
  case iinc k dd =>
    have hq := (ia_if_eq (show ia_if _ _ = some _ from h)).1
    replace h := (ia_if_eq (show ia_if _ _ = some _ from h)).2
    split at h
    · rename_i a ha
      have hk := (ia_if_eq h).1
      replace h := (ia_if_eq h).2
      obtain ⟨rfl, rfl, rfl, rfl⟩ := cm_nx_inj h
      obtain ⟨u, hu⟩ : ∃ u, u = ia_E a := ⟨_, rfl⟩
      have e1 : ia_at (cm_el lv) k = some (some (.inl (u, u))) := by rw [hu]; exact cm_el_at lv k ha
      refine cm_ifk hq ?_
      rw [e1]
      refine cm_ifk (b := Nat.beq u u) (cm_bq _) ?_
      rw [ia_frc_eq]
      refine cm_ifk hk ?_
      rw [ia_setK_eq, ia_nx_eq, cm_el_set]
      show ih _ ((cm_el lv).set k (some (.inl (Nat.mod (Nat.add (Nat.add u (ia_E (Int32.ofInt dd))) 2147483648) 4294967296, Nat.mod (Nat.add (Nat.add u (ia_E (Int32.ofInt dd))) 2147483648) 4294967296)))) _ _ _ _ _ = _
      rw [hu, ← ia_Eadd]
      rfl
    · cases h
  case iadd =>
    have hq := (ia_if_eq (show ia_if _ _ = some _ from h)).1
    replace h := (ia_if_eq (show ia_if _ _ = some _ from h)).2
    exact cm_ifk hq (cm_bink (fun x z => (ia_Eadd x z).symm) h)
  case isub =>
    have hq := (ia_if_eq (show ia_if _ _ = some _ from h)).1
    replace h := (ia_if_eq (show ia_if _ _ = some _ from h)).2
    exact cm_ifk hq (cm_bink (fun x z => (ia_Esub x z).symm) h)
  case imul =>
    have hq := (ia_if_eq (show ia_if _ _ = some _ from h)).1
    replace h := (ia_if_eq (show ia_if _ _ = some _ from h)).2
    exact cm_ifk hq (cm_bink (cm_opk _) h)
  case iand =>
    have hq := (ia_if_eq (show ia_if _ _ = some _ from h)).1
    replace h := (ia_if_eq (show ia_if _ _ = some _ from h)).2
    exact cm_ifk hq (cm_bink (cm_opk _) h)
  case ior =>
    have hq := (ia_if_eq (show ia_if _ _ = some _ from h)).1
    replace h := (ia_if_eq (show ia_if _ _ = some _ from h)).2
    exact cm_ifk hq (cm_bink (cm_opk _) h)
  case ixor =>
    have hq := (ia_if_eq (show ia_if _ _ = some _ from h)).1
    replace h := (ia_if_eq (show ia_if _ _ = some _ from h)).2
    exact cm_ifk hq (cm_bink (cm_opk _) h)
  case ishl =>
    have hq := (ia_if_eq (show ia_if _ _ = some _ from h)).1
    replace h := (ia_if_eq (show ia_if _ _ = some _ from h)).2
    exact cm_ifk hq (cm_bink (cm_opk _) h)
  case ishr =>
    have hq := (ia_if_eq (show ia_if _ _ = some _ from h)).1
    replace h := (ia_if_eq (show ia_if _ _ = some _ from h)).2
    exact cm_ifk hq (cm_bink (cm_opk _) h)
  case iushr =>
    have hq := (ia_if_eq (show ia_if _ _ = some _ from h)).1
    replace h := (ia_if_eq (show ia_if _ _ = some _ from h)).2
    exact cm_ifk hq (cm_bink (cm_opk _) h)
  case idiv =>
    have hq := (ia_if_eq (show ia_if _ _ = some _ from h)).1
    replace h := (ia_if_eq (show ia_if _ _ = some _ from h)).2
    split at h
    · rename_i b t
      have hz := (ia_if_eq h).1
      replace h := (ia_if_eq h).2
      refine cm_ifk hq ?_
      exact cm_ifk (cm_nz hz) (cm_bink (cm_opk _) h)
    · cases h
  case irem =>
    have hq := (ia_if_eq (show ia_if _ _ = some _ from h)).1
    replace h := (ia_if_eq (show ia_if _ _ = some _ from h)).2
    split at h
    · rename_i b t
      have hz := (ia_if_eq h).1
      replace h := (ia_if_eq h).2
      refine cm_ifk hq ?_
      exact cm_ifk (cm_nz hz) (cm_bink (cm_opk _) h)
    · cases h
  case i2b =>
    have hq := (ia_if_eq (show ia_if _ _ = some _ from h)).1
    replace h := (ia_if_eq (show ia_if _ _ = some _ from h)).2
    split at h
    · obtain ⟨rfl, rfl, rfl, rfl⟩ := cm_nx_inj h
      exact cm_ifk hq (cm_unk (by rw [ia_DE]))
    · cases h
  case i2l =>
    have hq := (ia_if_eq (show ia_if _ _ = some _ from h)).1
    replace h := (ia_if_eq (show ia_if _ _ = some _ from h)).2
    split at h
    · rename_i a t
      obtain ⟨rfl, rfl, rfl, rfl⟩ := cm_nx_inj h
      obtain ⟨u, hu⟩ : ∃ u, u = ia_E a := ⟨_, rfl⟩
      have es : cm_es (.inl a :: t) = .inl (u, u) :: cm_es t := by rw [hu]; rfl
      refine cm_ifk hq ?_
      rw [es]
      refine cm_ifk (b := Nat.beq u u) (cm_bq _) ?_
      rw [ia_frc_eq, ia_nx_eq]
      show ih _ _ (.inr (.inl (ia_D u).toInt64.toBitVec.toNat) :: cm_es t) _ _ _ _ = _
      rw [hu, ia_DE]
      rfl
    · cases h
  case ladd =>
    have hq := (ia_if_eq (show ia_if _ _ = some _ from h)).1
    replace h := (ia_if_eq (show ia_if _ _ = some _ from h)).2
    split at h
    · rename_i b a t
      obtain ⟨rfl, rfl, rfl, rfl⟩ := cm_nx_inj h
      refine cm_ifk hq ?_
      refine (ia_frc_eq _ _).trans ?_
      rw [ia_nx_eq, cm_l3]
      rfl
    · cases h
  case lmul =>
    have hq := (ia_if_eq (show ia_if _ _ = some _ from h)).1
    replace h := (ia_if_eq (show ia_if _ _ = some _ from h)).2
    split at h
    · rename_i b a t
      obtain ⟨rfl, rfl, rfl, rfl⟩ := cm_nx_inj h
      refine cm_ifk hq ?_
      refine (ia_frc_eq _ _).trans ?_
      rw [ia_nx_eq, cm_l4]
      rfl
    · cases h
  case lor =>
    have hq := (ia_if_eq (show ia_if _ _ = some _ from h)).1
    replace h := (ia_if_eq (show ia_if _ _ = some _ from h)).2
    split at h
    · rename_i b a t
      obtain ⟨rfl, rfl, rfl, rfl⟩ := cm_nx_inj h
      refine cm_ifk hq ?_
      refine (ia_frc_eq _ _).trans ?_
      rw [ia_nx_eq, ia_l64, ia_l64]
      rfl
    · cases h
  case lshl =>
    have hq := (ia_if_eq (show ia_if _ _ = some _ from h)).1
    replace h := (ia_if_eq (show ia_if _ _ = some _ from h)).2
    split at h
    · rename_i b a t
      obtain ⟨rfl, rfl, rfl, rfl⟩ := cm_nx_inj h
      obtain ⟨u, hu⟩ : ∃ u, u = ia_E b := ⟨_, rfl⟩
      have es : cm_es (.inl b :: .inr (.inl a) :: t) = .inl (u, u) :: .inr (.inl a.toBitVec.toNat) :: cm_es t := by rw [hu]; rfl
      refine cm_ifk hq ?_
      rw [es]
      refine cm_ifk (b := Nat.beq u u) (cm_bq _) ?_
      refine (ia_frc_eq _ _).trans ?_
      rw [ia_nx_eq, ia_l64]
      show ih _ _ (.inr (.inl (a <<< ((ia_D u).toInt64 &&& 63)).toBitVec.toNat) :: cm_es t) _ _ _ _ = _
      rw [hu, ia_DE]
      rfl
    · cases h
  case lcmp =>
    have hq := (ia_if_eq (show ia_if _ _ = some _ from h)).1
    replace h := (ia_if_eq (show ia_if _ _ = some _ from h)).2
    split at h
    · rename_i b a t
      obtain ⟨rfl, rfl, rfl, rfl⟩ := cm_nx_inj h
      refine cm_ifk hq ?_
      refine (ia_pi_eq _ _ _ _ _ _ _ _ _).trans ?_
      rw [ia_l64, ia_l64]
      rfl
    · cases h
  case dup =>
    have hq := (ia_if_eq (show ia_if _ _ = some _ from h)).1
    replace h := (ia_if_eq (show ia_if _ _ = some _ from h)).2
    split at h
    · rename_i a t
      have hz := (ia_if_eq h).1
      replace h := (ia_if_eq h).2
      obtain ⟨rfl, rfl, rfl, rfl⟩ := cm_nx_inj h
      refine cm_ifk hq ?_
      exact cm_ifk hz (ia_nx_eq _ _ _ _ _ _ _ _)
    · cases h
  case dup2 =>
    have hq := (ia_if_eq (show ia_if _ _ = some _ from h)).1
    replace h := (ia_if_eq (show ia_if _ _ = some _ from h)).2
    split at h
    · rename_i a b t
      have hz := (ia_if_eq h).1
      replace h := (ia_if_eq h).2
      obtain ⟨rfl, rfl, rfl, rfl⟩ := cm_nx_inj h
      refine cm_ifk hq ?_
      exact cm_ifk hz (ia_nx_eq _ _ _ _ _ _ _ _)
    · cases h
  case pop =>
    have hq := (ia_if_eq (show ia_if _ _ = some _ from h)).1
    replace h := (ia_if_eq (show ia_if _ _ = some _ from h)).2
    split at h
    · rename_i a t
      have hz := (ia_if_eq h).1
      replace h := (ia_if_eq h).2
      obtain ⟨rfl, rfl, rfl, rfl⟩ := cm_nx_inj h
      refine cm_ifk hq ?_
      exact cm_ifk hz (ia_nx_eq _ _ _ _ _ _ _ _)
    · cases h
  case ifCond c o =>
    have hq := (ia_if_eq (show ia_if _ _ = some _ from h)).1
    replace h := (ia_if_eq (show ia_if _ _ = some _ from h)).2
    split at h
    · rename_i a t
      refine cm_ifk hq ?_
      show ia_br (ia_cmp c (ia_E a, ia_E a) (2147483648, 2147483648)) o ih pc (cm_el lv) (cm_es t) (cm_s w) n 0 0 = _
      rw [← ia_E0, cm_cmpk]
      exact cm_brk h
    · cases h
  case if_icmp c o =>
    have hq := (ia_if_eq (show ia_if _ _ = some _ from h)).1
    replace h := (ia_if_eq (show ia_if _ _ = some _ from h)).2
    split at h
    · rename_i b a t
      refine cm_ifk hq ?_
      show ia_br (ia_cmp c (ia_E a, ia_E a) (ia_E b, ia_E b)) o ih pc (cm_el lv) (cm_es t) (cm_s w) n 0 0 = _
      rw [cm_cmpk]
      exact cm_brk h
    · cases h
  case goto o =>
    have hq := (ia_if_eq (show ia_if _ _ = some _ from h)).1
    replace h := (ia_if_eq (show ia_if _ _ = some _ from h)).2
    exact cm_ifk hq (cm_jmpk h)
  case tableswitch df lo hi os =>
    replace h : cm_tsw df lo hi os pc lv st w = some (pc', lv', st', w') := h
    unfold cm_tsw at h
    split at h
    · rename_i a t
      obtain ⟨u, hu⟩ : ∃ u, u = ia_E a := ⟨_, rfl⟩
      have es : cm_es (.inl a :: t) = .inl (u, u) :: cm_es t := by rw [hu]; rfl
      have hx : Int.ofNat u - 2147483648 = a.toInt := by rw [hu]; exact (ia_toInt a).symm
      rw [es]
      show (match decide (Int.ofNat u - 2147483648 < lo) || decide (hi < Int.ofNat u - 2147483648) with
        | true => ia_jmp df ih pc (cm_el lv) (cm_es t) (cm_s w) n 0 0
        | false => (match Nat.beq u u with
          | true => (match ia_at os.toList (Int.ofNat u - 2147483648 - lo).toNat with
            | some o => ia_jmp o ih pc (cm_el lv) (cm_es t) (cm_s w) n 0 0
            | none => none)
          | false => none)) = _
      rw [hx, cm_bq]
      split at h
      · rename_i hz
        rw [hz]
        exact cm_jmpk h
      · rename_i hz
        rw [hz]
        show (match ia_at os.toList (a.toInt - lo).toNat with
          | some o => ia_jmp o ih pc (cm_el lv) (cm_es t) (cm_s w) n 0 0
          | none => none) = _
        split at h
        · rename_i o ho
          rw [ho]
          exact cm_jmpk h
        · cases h
    · cases h
  case lookupswitch df ps =>
    replace h : cm_lks df ps pc lv st w = some (pc', lv', st', w') := h
    unfold cm_lks at h
    split at h
    · rename_i a t
      have hz := (ia_if_eq h).1
      replace h := (ia_if_eq h).2
      obtain ⟨u, hu⟩ : ∃ u, u = ia_E a := ⟨_, rfl⟩
      have es : cm_es (.inl a :: t) = .inl (u, u) :: cm_es t := by rw [hu]; rfl
      have hx : Int.ofNat u - 2147483648 = a.toInt := by rw [hu]; exact (ia_toInt a).symm
      rw [es]
      show ia_if (Nat.beq u u && ia_srt ps.toList) (ia_jmp (Op.lookupswitch.offset ps.toList df (Int.ofNat u - 2147483648)) ih pc (cm_el lv) (cm_es t) (cm_s w) n 0 0) = _
      rw [hx, cm_bq, hz]
      exact cm_jmpk h
    · cases h
  case getfield i =>
    have hq := (ia_if_eq (show ia_if _ _ = some _ from h)).1
    replace h := (ia_if_eq (show ia_if _ _ = some _ from h)).2
    split at h
    · rename_i k t
      split at h
      · rename_i ci sl z1 z2 hpl
        split at h
        · rename_i c hs
          have hz := (ia_if_eq h).1
          replace h := (ia_if_eq h).2
          obtain ⟨rfl, rfl, rfl, rfl⟩ := cm_nx_inj h
          rw [Bool.and_eq_true] at hz
          refine cm_ifk hq ?_
          rw [ia_frc_eq]
          show (match ia_pl (ia_cls y) i with
            | some (0, ci, sl, _, _) => (match ia_get2 (cm_s w) k with
              | some c => ia_if (Nat.beq c.1 ci) (match ia_get2 c.2.2 sl with
                | some v => ia_nx ih (Nat.add pc 3) (cm_el lv) (v :: cm_es t) (cm_s w) n 0 0
                | none => none)
              | none => none)
            | _ => none) = _
          rw [hpl]
          show (match ia_get2 (cm_s w) k with
              | some c => ia_if (Nat.beq c.1 ci) (match ia_get2 c.2.2 sl with
                | some v => ia_nx ih (Nat.add pc 3) (cm_el lv) (v :: cm_es t) (cm_s w) n 0 0
                | none => none)
              | none => none) = _
          rw [cm_s_get hs]
          refine cm_ifk hz.1 ?_
          show (match ia_get2 (cm_tab c.2.1 (fun i => cm_e (cm_v w k i (cm_code c i)))) sl with
                | some v => ia_nx ih (Nat.add pc 3) (cm_el lv) (v :: cm_es t) (cm_s w) n 0 0
                | none => none) = _
          rw [cm_cell_at (ia_blt hz.2)]
          exact ia_nx_eq _ _ _ _ _ _ _ _
        · cases h
      · cases h
    · cases h
  case putfield i =>
    have hq := (ia_if_eq (show ia_if _ _ = some _ from h)).1
    replace h := (ia_if_eq (show ia_if _ _ = some _ from h)).2
    split at h
    · rename_i v k t
      split at h
      · rename_i ci sl kd z2 hpl
        split at h
        · rename_i c hs
          have hz := (ia_if_eq h).1
          replace h := (ia_if_eq h).2
          split at h
          · rename_i w2 hp
            obtain ⟨rfl, rfl, rfl, rfl⟩ := cm_nx_inj h
            simp only [Bool.and_eq_true] at hz
            obtain ⟨q1, q2, q3⟩ := hz
            refine cm_ifk hq ?_
            rw [ia_frc_eq]
            have e1 : ia_pf y i ih pc (cm_el lv) (cm_es (v :: .inr (.inr (some k)) :: t)) (cm_s w) n 0 0 = (match ia_pl (ia_cls y) i with
              | some (0, ci, sl, kd, _) => (match ia_get2 (cm_s w) k with
                | some c => ia_if (Nat.beq c.1 ci && (ia_fit y ci kd (cm_e v) && (ia_get2 c.2.2 sl).isSome)) (ia_set2K c.2.2 sl (cm_e v) (fun fs => ia_set2K (cm_s w) k (c.1, c.2.1, fs) (fun σ => ia_nx ih (Nat.add pc 3) (cm_el lv) (cm_es t) σ n 0 0)))
                | none => none)
              | _ => none) := rfl
            rw [e1, hpl]
            show (match ia_get2 (cm_s w) k with
                | some c => ia_if (Nat.beq c.1 ci && (ia_fit y ci kd (cm_e v) && (ia_get2 c.2.2 sl).isSome)) (ia_set2K c.2.2 sl (cm_e v) (fun fs => ia_set2K (cm_s w) k (c.1, c.2.1, fs) (fun σ => ia_nx ih (Nat.add pc 3) (cm_el lv) (cm_es t) σ n 0 0)))
                | none => none) = _
            rw [cm_s_get hs]
            show ia_if (Nat.beq c.1 ci && (ia_fit y ci kd (cm_e v) && (ia_get2 (cm_tab c.2.1 (fun i => cm_e (cm_v w k i (cm_code c i)))) sl).isSome)) (ia_set2K (cm_tab c.2.1 (fun i => cm_e (cm_v w k i (cm_code c i)))) sl (cm_e v) (fun fs => ia_set2K (cm_s w) k (c.1, c.2.1, fs) (fun σ => ia_nx ih (Nat.add pc 3) (cm_el lv) (cm_es t) σ n 0 0))) = _
            refine cm_ifk (by rw [q1, q2, cm_cell_at (ia_blt q3)]; rfl) ?_
            rw [cm_set2 hs (ia_blt q3) hp]
            exact ia_nx_eq _ _ _ _ _ _ _ _
          · cases h
        · cases h
      · cases h
    · cases h
  case iaload =>
    have hq := (ia_if_eq (show ia_if _ _ = some _ from h)).1
    replace h := (ia_if_eq (show ia_if _ _ = some _ from h)).2
    exact cm_ifk hq (cm_alk h)
  case laload =>
    have hq := (ia_if_eq (show ia_if _ _ = some _ from h)).1
    replace h := (ia_if_eq (show ia_if _ _ = some _ from h)).2
    exact cm_ifk hq (cm_alk h)
  case baload =>
    have hq := (ia_if_eq (show ia_if _ _ = some _ from h)).1
    replace h := (ia_if_eq (show ia_if _ _ = some _ from h)).2
    split at h
    · rename_i hz
      obtain ⟨k, c, h1, h2, h3⟩ := cm_kn_ok (ia_beq hz) (by decide)
      refine cm_ifk hq ?_
      have h' := h
      unfold cm_al at h'
      split at h'
      · rename_i a k' t
        cases h1
        show (match ia_get2 (cm_s w) k with
          | some c => (match Nat.beq c.1 52 with
            | true => ia_al 52 ih pc (cm_el lv) (cm_es (.inl a :: .inr (.inr (some k)) :: t)) (cm_s w) n 0 0
            | false => ia_al 53 ih pc (cm_el lv) (cm_es (.inl a :: .inr (.inr (some k)) :: t)) (cm_s w) n 0 0)
          | none => none) = _
        rw [cm_s_get h2]
        show (match Nat.beq c.1 52 with
            | true => ia_al 52 ih pc (cm_el lv) (cm_es (.inl a :: .inr (.inr (some k)) :: t)) (cm_s w) n 0 0
            | false => ia_al 53 ih pc (cm_el lv) (cm_es (.inl a :: .inr (.inr (some k)) :: t)) (cm_s w) n 0 0) = _
        rw [h3]
        exact cm_alk h
      · cases h'
    · rename_i hz
      refine cm_ifk hq ?_
      have h' := h
      unfold cm_al at h'
      split at h'
      · rename_i a k t
        split at h'
        · rename_i c hs
          obtain ⟨hz2, -⟩ := ia_if_eq h'
          rw [Bool.and_eq_true] at hz2
          show (match ia_get2 (cm_s w) k with
            | some c => (match Nat.beq c.1 52 with
              | true => ia_al 52 ih pc (cm_el lv) (cm_es (.inl a :: .inr (.inr (some k)) :: t)) (cm_s w) n 0 0
              | false => ia_al 53 ih pc (cm_el lv) (cm_es (.inl a :: .inr (.inr (some k)) :: t)) (cm_s w) n 0 0)
            | none => none) = _
          rw [cm_s_get hs]
          show (match Nat.beq c.1 52 with
              | true => ia_al 52 ih pc (cm_el lv) (cm_es (.inl a :: .inr (.inr (some k)) :: t)) (cm_s w) n 0 0
              | false => ia_al 53 ih pc (cm_el lv) (cm_es (.inl a :: .inr (.inr (some k)) :: t)) (cm_s w) n 0 0) = _
          rw [ia_beq hz2.1]
          exact cm_alk h
        · cases h'
      · cases h'
  case aaload =>
    have hq := (ia_if_eq (show ia_if _ _ = some _ from h)).1
    replace h := (ia_if_eq (show ia_if _ _ = some _ from h)).2
    have go : ∀ tg, tg = 54 ∨ tg = 55 → cm_al tg pc lv st w = some (pc', lv', st', w') → ia_do .aaload call y len ih pc (cm_el lv) (cm_es st) (cm_s w) n 0 0 = ih pc' (cm_el lv') (cm_es st') (cm_s w') n 0 0 := fun tg htg hh => by
      refine cm_ifk hq ?_
      have h' := hh
      unfold cm_al at h'
      split at h'
      · rename_i a k t
        split at h'
        · rename_i c hs
          obtain ⟨hz2, -⟩ := ia_if_eq h'
          rw [Bool.and_eq_true] at hz2
          show (match ia_get2 (cm_s w) k with
            | some c => (match Nat.beq c.1 54 with
              | true => ia_al 54 ih pc (cm_el lv) (cm_es (.inl a :: .inr (.inr (some k)) :: t)) (cm_s w) n 0 0
              | false => ia_al 55 ih pc (cm_el lv) (cm_es (.inl a :: .inr (.inr (some k)) :: t)) (cm_s w) n 0 0)
            | none => none) = _
          rw [cm_s_get hs]
          show (match Nat.beq c.1 54 with
              | true => ia_al 54 ih pc (cm_el lv) (cm_es (.inl a :: .inr (.inr (some k)) :: t)) (cm_s w) n 0 0
              | false => ia_al 55 ih pc (cm_el lv) (cm_es (.inl a :: .inr (.inr (some k)) :: t)) (cm_s w) n 0 0) = _
          rw [ia_beq hz2.1]
          rcases htg with rfl | rfl
          · exact cm_alk hh
          · exact cm_alk hh
        · cases h'
      · cases h'
    split at h
    · exact go 54 (Or.inl rfl) h
    · exact go 55 (Or.inr rfl) h
  case iastore =>
    have hq := (ia_if_eq (show ia_if _ _ = some _ from h)).1
    replace h := (ia_if_eq (show ia_if _ _ = some _ from h)).2
    exact cm_ifk hq (cm_ask (fun _ => rfl) h)
  case lastore =>
    have hq := (ia_if_eq (show ia_if _ _ = some _ from h)).1
    replace h := (ia_if_eq (show ia_if _ _ = some _ from h)).2
    exact cm_ifk hq (cm_aslk h)
  case bastore =>
    have hq := (ia_if_eq (show ia_if _ _ = some _ from h)).1
    replace h := (ia_if_eq (show ia_if _ _ = some _ from h)).2
    have go : ∀ (tg : Nat) (ty : FieldType), (tg = 52 ∧ ty = .byte) ∨ (tg = 53 ∧ ty = .boolean) → cm_as tg (vp_nar ty) pc lv st w = some (pc', lv', st', w') → ia_do .bastore call y len ih pc (cm_el lv) (cm_es st) (cm_s w) n 0 0 = ih pc' (cm_el lv') (cm_es st') (cm_s w') n 0 0 := fun tg ty htg hh => by
      refine cm_ifk hq ?_
      have h' := hh
      unfold cm_as at h'
      split at h'
      · rename_i x a k t
        split at h'
        · rename_i c hs
          obtain ⟨hz2, -⟩ := ia_if_eq h'
          rw [Bool.and_eq_true] at hz2
          show (match ia_get2 (cm_s w) k with
            | some c => (match Nat.beq c.1 52 with
              | true => ia_as 52 (ia_gn .byte) ih pc (cm_el lv) (cm_es (.inl x :: .inl a :: .inr (.inr (some k)) :: t)) (cm_s w) n 0 0
              | false => ia_as 53 (ia_gn .boolean) ih pc (cm_el lv) (cm_es (.inl x :: .inl a :: .inr (.inr (some k)) :: t)) (cm_s w) n 0 0)
            | none => none) = _
          rw [cm_s_get hs]
          show (match Nat.beq c.1 52 with
              | true => ia_as 52 (ia_gn .byte) ih pc (cm_el lv) (cm_es (.inl x :: .inl a :: .inr (.inr (some k)) :: t)) (cm_s w) n 0 0
              | false => ia_as 53 (ia_gn .boolean) ih pc (cm_el lv) (cm_es (.inl x :: .inl a :: .inr (.inr (some k)) :: t)) (cm_s w) n 0 0) = _
          rw [ia_beq hz2.1]
          rcases htg with ⟨rfl, rfl⟩ | ⟨rfl, rfl⟩
          · exact cm_ask (cm_gnk _) hh
          · exact cm_ask (cm_gnk _) hh
        · cases h'
      · cases h'
    split at h
    · exact go 52 .byte (Or.inl ⟨rfl, rfl⟩) h
    · exact go 53 .boolean (Or.inr ⟨rfl, rfl⟩) h
  case arraylength =>
    have hq := (ia_if_eq (show ia_if _ _ = some _ from h)).1
    replace h := (ia_if_eq (show ia_if _ _ = some _ from h)).2
    split at h
    · rename_i k t
      split at h
      · rename_i c hs
        have hz := (ia_if_eq h).1
        replace h := (ia_if_eq h).2
        obtain ⟨rfl, rfl, rfl, rfl⟩ := cm_nx_inj h
        have hz' := hz
        simp only [Bool.and_eq_true] at hz'
        refine cm_ifk hq ?_
        show (match ia_get2 (cm_s w) k with
          | some c => ia_if (Nat.ble 50 c.1 && (Nat.ble c.1 55 && Nat.blt c.2.1 2147483648)) (ia_pi ih (Nat.add c.2.1 2147483648) (Nat.add pc 1) (cm_el lv) (cm_es t) (cm_s w) n 0 0)
          | none => none) = _
        rw [cm_s_get hs]
        refine cm_ifk hz ?_
        refine (ia_pi_eq _ _ _ _ _ _ _ _ _).trans ?_
        rw [show Nat.add c.2.1 2147483648 = ia_E (Int32.ofNat c.2.1) from (ia_Elen (ia_blt hz'.2.2)).symm]
        rfl
      · cases h
    · cases h
  case ldc i =>
    have hq := (ia_if_eq (show ia_if _ _ = some _ from h)).1
    replace h := (ia_if_eq (show ia_if _ _ = some _ from h)).2
    split at h
    · rename_i v z1 z2 z3 hpl
      obtain ⟨rfl, rfl, rfl, rfl⟩ := cm_nx_inj h
      refine cm_ifk hq ?_
      rw [ia_frc_eq]
      unfold ia_cst
      rw [hpl]
      refine (ia_nx_eq _ _ _ _ _ _ _ _).trans ?_
      show _ = ih _ _ (.inl (ia_E (ia_D v), ia_E (ia_D v)) :: cm_es st) _ _ _ _
      rw [(ia_ok8 (ia_pl_ok hpl)).2]
    · cases h
  case ldc_w i =>
    have hq := (ia_if_eq (show ia_if _ _ = some _ from h)).1
    replace h := (ia_if_eq (show ia_if _ _ = some _ from h)).2
    split at h
    · rename_i v z1 z2 z3 hpl
      obtain ⟨rfl, rfl, rfl, rfl⟩ := cm_nx_inj h
      refine cm_ifk hq ?_
      rw [ia_frc_eq]
      unfold ia_cst
      rw [hpl]
      refine (ia_nx_eq _ _ _ _ _ _ _ _).trans ?_
      show _ = ih _ _ (.inl (ia_E (ia_D v), ia_E (ia_D v)) :: cm_es st) _ _ _ _
      rw [(ia_ok8 (ia_pl_ok hpl)).2]
    · cases h
  case ldc2_w i =>
    have hq := (ia_if_eq (show ia_if _ _ = some _ from h)).1
    replace h := (ia_if_eq (show ia_if _ _ = some _ from h)).2
    split at h
    · rename_i v z1 z2 z3 hpl
      have hz := (ia_if_eq h).1
      replace h := (ia_if_eq h).2
      obtain ⟨rfl, rfl, rfl, rfl⟩ := cm_nx_inj h
      refine cm_ifk hq ?_
      rw [ia_frc_eq]
      unfold ia_csl
      rw [hpl]
      refine (ia_nx_eq _ _ _ _ _ _ _ _).trans ?_
      show _ = ih _ _ (.inr (.inl (Int64.ofNat v).toBitVec.toNat) :: cm_es st) _ _ _ _
      rw [cm_l2 (ia_blt hz)]
    · cases h
  case invokestatic i =>
    have hq := (ia_if_eq (show ia_if _ _ = some _ from h)).1
    replace h := (ia_if_eq (show ia_if _ _ = some _ from h)).2
    refine cm_ifk hq ?_
    rw [ia_frc_eq]
    exact cm_invk h
theorem cm_takek {α : Type} (f : List ia_V → List ia_V → Option α) : ∀ (k : Nat) (acc : List ia_V) (st : List cm_V), k ≤ st.length → ia_take k acc (cm_es st) f = f (cm_es (st.take k).reverse ++ acc) (cm_es (st.drop k))
  | 0, acc, st, _ => rfl
  | k + 1, acc, [], h => absurd h (Nat.not_succ_le_zero k)
  | k + 1, acc, a :: t, h => by
    show ia_take k (cm_e a :: acc) (cm_es t) f = _
    rw [cm_takek f k (cm_e a :: acc) t (Nat.le_of_succ_le_succ h)]
    congr 1
    rw [List.take_succ_cons, List.reverse_cons]
    unfold cm_es
    rw [List.map_append, List.append_assoc]
    rfl
theorem cm_rcvk {y2 : Nat} {as : List cm_V} (h : cm_rcv y2 as = true) : ia_rcv y2 (cm_s w) (cm_es as) = true := by
  unfold cm_rcv at h
  split at h
  · rename_i k t
    split at h
    · rename_i c hs
      show (match ia_get2 (cm_s w) k with
        | some c => Nat.beq c.1 (ia_cls y2) && Nat.blt c.1 13
        | none => false) = true
      rw [cm_s_get hs]
      exact h
    · cases h
  · cases h
theorem cm_calk {kd i y2 : Nat} {as t : List cm_V} (h : cm_cal y kd i st = some (y2, as, t)) : ia_inv call y kd i ih pc (cm_el lv) (cm_es st) (cm_s w) n 0 0 = (match call y2 (cm_es as) (cm_s w) n with
    | some (r, σ', n') => ih (pc + 3) (cm_el lv) (ia_back r (cm_es t)) σ' n' 0 0
    | none => none) := by
  unfold cm_cal at h
  unfold ia_inv
  split at h
  · rename_i y2' md z1 z2 hpl
    rw [hpl]
    obtain ⟨hq, h⟩ := ia_if_eq h
    cases h
    simp only [Bool.and_eq_true] at hq
    obtain ⟨q1, q2, q3, q4, q5, q6⟩ := hq
    have e5 := ia_beq q5
    have e6 := ia_beq q6
    show ia_take (ia_na y2) [] (cm_es st) _ = _
    rw [cm_takek _ _ _ _ (ia_ble q1), List.append_nil]
    have hr : (Nat.beq md 1 || ia_rcv y2 (cm_s w) (cm_es (st.take (ia_na y2)).reverse)) = true := by
      rw [Bool.or_eq_true] at q4 ⊢
      rcases q4 with z | z
      · exact Or.inl z
      · exact Or.inr (cm_rcvk z)
    refine cm_ifk (by rw [q2, q3, hr, e5, e6]; rfl) ?_
    rw [e5, e6]
    cases call y2 (cm_es (st.take (ia_na y2)).reverse) (cm_s w) n with
    | none => rfl
    | some o =>
      obtain ⟨r, σ', n'⟩ := o
      show ia_frc (Nat.add 0 0) (fun nc => ia_frc (Nat.add 0 0) (fun ns => ia_nx ih (Nat.add pc 3) (cm_el lv) (ia_back r (cm_es (st.drop (ia_na y2)))) σ' n' nc ns)) = ih (pc + 3) (cm_el lv) (ia_back r (cm_es (st.drop (ia_na y2)))) σ' n' 0 0
      rw [ia_frc_eq, ia_frc_eq, ia_nx_eq]
  · cases h
theorem cm_sim2 {ins : Instr} {y2 : Nat} {as t : List cm_V} (h : cm_call y ins len st = some (y2, as, t)) : ia_do ins call y len ih pc (cm_el lv) (cm_es st) (cm_s w) n 0 0 = (match call y2 (cm_es as) (cm_s w) n with
    | some (r, σ', n') => ih (pc + 3) (cm_el lv) (ia_back r (cm_es t)) σ' n' 0 0
    | none => none) := by
  unfold cm_call at h
  split at h
  · obtain ⟨hq, h⟩ := ia_if_eq h
    refine cm_ifk hq ?_
    rw [ia_frc_eq]
    exact cm_calk h
  · obtain ⟨hq, h⟩ := ia_if_eq h
    refine cm_ifk hq ?_
    rw [ia_frc_eq]
    exact cm_calk h
  · cases h
theorem cm_sim3 {ins : Instr} {r : Option cm_V} (h : cm_ret y ins len st = some r) : len = 1 ∧ ((ins = .ireturn ∧ ia_rt y (cm_es st) (cm_s w) n = some (r.map cm_e, cm_s w, n)) ∨ (ins = .lreturn ∧ ia_rl y (cm_es st) (cm_s w) n = some (r.map cm_e, cm_s w, n)) ∨ (ins = .return_ ∧ ia_rv y (cm_es st) (cm_s w) n = some (r.map cm_e, cm_s w, n))) := by
  unfold cm_ret at h
  split at h
  · have hq := (ia_if_eq h).1
    replace h := (ia_if_eq h).2
    refine ⟨ia_beq hq, Or.inl ⟨rfl, ?_⟩⟩
    split at h
    · rename_i a
      obtain ⟨u, hu⟩ : ∃ u, u = ia_E a := ⟨_, rfl⟩
      have es : cm_es [.inl a] = [.inl (u, u)] := by rw [hu]; rfl
      split at h
      · rename_i ty hty
        have hz := (ia_if_eq h).1
        replace h := (ia_if_eq h).2
        cases h
        rw [← hu] at hz
        rw [es]
        show (match ia_ret y with
          | some ty => ia_if (Nat.beq u u && ia_nar ty u) (some (some (Sum.inl (u, u)), cm_s w, n))
          | none => none) = _
        rw [hty]
        refine cm_ifk (by rw [cm_bq, hz]; rfl) ?_
        rw [hu]
        rfl
      · cases h
    · cases h
  · have hq := (ia_if_eq h).1
    replace h := (ia_if_eq h).2
    refine ⟨ia_beq hq, Or.inr (Or.inl ⟨rfl, ?_⟩)⟩
    split at h
    · rename_i a
      split at h
      · rename_i hty
        cases h
        show (match ia_ret y with
          | some .long => some (some (Sum.inr (Sum.inl a.toBitVec.toNat)), cm_s w, n)
          | _ => none) = _
        rw [hty]
        rfl
      · cases h
    · cases h
  · have hq := (ia_if_eq h).1
    replace h := (ia_if_eq h).2
    refine ⟨ia_beq hq, Or.inr (Or.inr ⟨rfl, ?_⟩)⟩
    split at h
    · split at h
      · rename_i hty
        cases h
        show (match ia_ret y with
          | none => some (none, cm_s w, n)
          | some _ => none) = _
        rw [hty]
        rfl
      · cases h
    · cases h
  · cases h
end CMT
