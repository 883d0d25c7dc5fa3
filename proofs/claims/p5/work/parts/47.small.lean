/-! ## by hand: two methods that read a static array; bits(I)I -/
theorem hs_arA : ia_arA.all (fun v => Nat.ble 2147483648 (ia_E (Int32.ofInt v)) && Nat.ble (ia_E (Int32.ofInt v)) 2147483840) = true := by decide +kernel
theorem hs_arH : ia_arH.all (fun v => Nat.ble 2147483648 (ia_E (Int32.ofInt v)) && Nat.ble (ia_E (Int32.ofInt v)) 2147483683) = true := by decide +kernel
theorem hs_pr {l : List Int} {hi : Nat} (hh : 2147483648 ≤ hi) (hl : l.all (fun v => Nat.ble 2147483648 (ia_E (Int32.ofInt v)) && Nat.ble (ia_E (Int32.ofInt v)) hi) = true) (k : Int32) : sv_in (2147483648, hi) (cm_pr l k) := by
  unfold cm_pr
  by_cases h : 0 ≤ k.toInt ∧ k.toInt < l.length
  · rw [if_pos h]
    have hlt : k.toInt.toNat < l.length := by omega
    have e : l.getD k.toInt.toNat 0 = l[k.toInt.toNat] := by
      rw [List.getD_eq_getElem?_getD, List.getElem?_eq_getElem hlt]
      rfl
    rw [e]
    have h2 := List.all_eq_true.mp hl _ (List.getElem_mem hlt)
    rw [Bool.and_eq_true] at h2
    exact ⟨ia_ble h2.1, ia_ble h2.2⟩
  · rw [if_neg h]
    exact ⟨by rw [ia_E0]; exact Nat.le_refl _, by rw [ia_E0]; exact hh⟩
theorem hs_at_ok : sv_valid sg hs_at := by
  intro as w hargs hfs hG
  obtain ⟨c, t, rfl, h1, h2⟩ := sv_cons hargs
  have := sv_nil h2
  subst this
  match c, h1 with
  | .inl x, _ => exact ⟨(some (.inl (cm_pr ia_arA x)), w), Or.inl (Or.inl ⟨rfl, x, rfl, rfl⟩), hG, fun _ _ _ => ⟨rfl, rfl⟩, _, List.mem_cons_self, hs_pr (by decide) hs_arA x, trivial, fun f hf => by cases hf⟩
theorem hs_many_ok : sv_valid sg hs_many := by
  intro as w hargs hfs hG
  obtain ⟨c, t, rfl, h1, h2⟩ := sv_cons hargs
  have := sv_nil h2
  subst this
  match c, h1 with
  | .inl x, _ => exact ⟨(some (.inl (cm_pr ia_arH x)), w), Or.inl (Or.inr ⟨rfl, x, rfl, rfl⟩), hG, fun _ _ _ => ⟨rfl, rfl⟩, _, List.mem_cons_self, hs_pr (by decide) hs_arH x, trivial, fun f hf => by cases hf⟩
theorem hs_land (x : Int32) (h : x ≠ 0) : (x &&& (x - 1)).toBitVec.toNat < x.toBitVec.toNat := by
  have h0 : x.toBitVec.toNat ≠ 0 := fun z => h (by
    apply Int32.toBitVec_inj.mp
    apply BitVec.eq_of_toNat_eq
    rw [z]
    rfl)
  have h1 : (x &&& (x - 1)).toBitVec.toNat = x.toBitVec.toNat &&& (x - 1).toBitVec.toNat := sv_and_e
  have h2 : (x - 1).toBitVec.toNat = x.toBitVec.toNat - 1 := by
    have hl : x.toBitVec.toNat < 4294967296 := x.toBitVec.isLt
    show (x.toBitVec - 1#32).toNat = _
    rw [BitVec.toNat_sub]
    show (4294967296 - 1 + x.toBitVec.toNat) % 4294967296 = _
    omega
  have h3 := Nat.and_le_right (n := x.toBitVec.toNat) (m := (x - 1).toBitVec.toNat)
  omega
set_option maxRecDepth 100000 in
theorem hs_bits_d : decode (ia_code 95) 0 = .ok (.iconst 0, 1) ∧ decode (ia_code 95) 1 = .ok (.istore_n 1, 1) ∧ decode (ia_code 95) 2 = .ok (.iload_n 0, 1) ∧ decode (ia_code 95) 3 = .ok (.istore_n 2, 1) ∧ decode (ia_code 95) 4 = .ok (.iload_n 2, 1) ∧ decode (ia_code 95) 5 = .ok (.ifCond .eq 15, 3) ∧ decode (ia_code 95) 8 = .ok (.iinc 1 1, 3) ∧ decode (ia_code 95) 11 = .ok (.iload_n 2, 1) ∧ decode (ia_code 95) 12 = .ok (.iload_n 2, 1) ∧ decode (ia_code 95) 13 = .ok (.iconst 1, 1) ∧ decode (ia_code 95) 14 = .ok (.isub, 1) ∧ decode (ia_code 95) 15 = .ok (.iand, 1) ∧ decode (ia_code 95) 16 = .ok (.istore_n 2, 1) ∧ decode (ia_code 95) 17 = .ok (.goto (-13), 3) ∧ decode (ia_code 95) 20 = .ok (.iload_n 1, 1) ∧ decode (ia_code 95) 21 = .ok (.ireturn, 1) := by
  refine ⟨?_, ?_, ?_, ?_, ?_, ?_, ?_, ?_, ?_, ?_, ?_, ?_, ?_, ?_, ?_, ?_⟩ <;> decide +kernel
set_option maxRecDepth 100000 in
theorem hs_bits_m : ia_maxL 95 = 3 ∧ ia_ret 95 = some .int := ⟨by decide +kernel, by decide +kernel⟩
theorem hs_bits_ok : sv_valid sg hs_bits := by
  intro as w hargs hfs hG
  obtain ⟨c, t, rfl, h1, h2⟩ := sv_cons hargs
  have := sv_nil h2
  subst this
  obtain ⟨d0, d1, d2, d3, d4, d5, d8, d11, d12, d13, d14, d15, d16, d17, d20, d21⟩ := hs_bits_d
  obtain ⟨m1, m2⟩ := hs_bits_m
  match c, h1 with
  | .inl x, _ =>
    have fin : ∀ n : Int32, sv_Q sg hs_bits [.inl x] w (some (.inl n), w) := fun n => ⟨hG, fun _ _ _ => ⟨rfl, rfl⟩, _, List.mem_cons_self, sv_in_top n, trivial, fun f hf => by cases hf⟩
    have loop : ∀ (m : Nat) (n v : Int32), v.toBitVec.toNat < m → cm_X (cm_C 0) 95 4 [some (.inl x), some (.inl n), some (.inl v)] [] w (sv_Q sg hs_bits [.inl x] w) := by
      intro m
      induction m with
      | zero => intro n v hm; exact absurd hm (Nat.not_lt_zero _)
      | succ m ih =>
        intro n v hm
        refine wk_iload_n d4 rfl ?_
        refine wk_if d5 (t := 20) rfl (fun _ => ?_) (fun hc => ?_)
        · refine wk_iload_n d20 rfl ?_
          exact wk_ireturn d21 m2 rfl (fin n)
        · have hv : v ≠ 0 := (wk_cmp_eq rfl).2 hc
          refine wk_iinc d8 (by rw [m1]; rfl) rfl rfl ?_
          refine wk_iload_n d11 rfl ?_
          refine wk_iload_n d12 rfl ?_
          refine wk_iconst d13 ?_
          refine wk_isub d14 ?_
          refine wk_iand d15 ?_
          refine wk_istore_n d16 (by rw [m1]; rfl) rfl ?_
          refine wk_goto d17 (t := 4) rfl ?_
          exact ih _ _ (Nat.lt_of_lt_of_le (hs_land v hv) (Nat.le_of_lt_succ hm))
    have hent : cm_ent 95 [.inl x] = [some (.inl x), none, none] := by
      unfold cm_ent
      rw [m1]
      rfl
    show ∃ o, cm_C (0 + 1) 95 [.inl x] w o ∧ sv_Q sg hs_bits [.inl x] w o
    refine wk_entry (by rw [m1]; exact Nat.le_of_ble_eq_true rfl) ?_
    rw [hent]
    refine wk_iconst d0 ?_
    refine wk_istore_n d1 (by rw [m1]; rfl) rfl ?_
    refine wk_iload_n d2 rfl ?_
    refine wk_istore_n d3 (by rw [m1]; rfl) rfl ?_
    exact loop _ _ _ (Nat.lt_succ_self _)
