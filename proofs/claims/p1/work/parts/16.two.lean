/-! ## a line of the law: the class's answer and the reference's, and they agree -/
noncomputable def ia_rx : ia_V := .inr (.inr (.inl (some 0)))
noncomputable def ia_ry : ia_V := .inr (.inr (.inl (some 184)))
noncomputable def ia_chk (yx ym : Nat) (as : List ia_V) : Bool := match ia_call 7 yx (ia_rx :: as) ia_S4 205 with
  | some (some (.inl a), σ, n) => (match ia_call 7 ym (ia_ry :: as) σ n with
    | some (some (.inl b), _, _) => Nat.beq a.1 a.2 && (Nat.beq b.1 b.2 && (Nat.beq a.1 b.1 && (match ia_get2 σ 184 with
      | some c => Nat.beq c.1 12
      | none => false)))
    | _ => false)
  | _ => false
noncomputable def ia_all (yx ym : Nat) : List (List (Nat × Nat)) → List ia_V → Bool
  | [], acc => ia_chk yx ym acc.reverse
  | qs :: t, acc => qs.all (fun q => ia_all yx ym t (.inl q :: acc))
/-- bounds side by side from o on, up to the last number -/
noncomputable def ia_cov : List (Nat × Nat) → Nat → Bool
  | [], o => Nat.ble 4294967296 o
  | q :: t, o => Nat.beq q.1 o && (Nat.ble o q.2 && ia_cov t (q.2 + 1))
theorem ia_cov_ok : ∀ (qs : List (Nat × Nat)) (o u : Nat), ia_cov qs o = true → o ≤ u → u < 4294967296 → ∃ q ∈ qs, q.1 ≤ u ∧ u ≤ q.2
  | [], o, u, h, h1, h2 => by
    have := ia_ble (show Nat.ble 4294967296 o = true from h)
    omega
  | q :: t, o, u, h, h1, h2 => by
    have h' : (Nat.beq q.1 o && (Nat.ble o q.2 && ia_cov t (q.2 + 1))) = true := h
    simp only [Bool.and_eq_true] at h'
    have e1 := ia_beq h'.1
    have e2 := ia_ble h'.2.1
    rcases Nat.lt_or_ge q.2 u with z | z
    · obtain ⟨r, hr, g⟩ := ia_cov_ok t (q.2 + 1) u h'.2.2 (by omega) h2
      exact ⟨r, List.mem_cons_of_mem _ hr, g⟩
    · exact ⟨q, List.mem_cons_self, by omega, z⟩
theorem ia_pick {yx ym : Nat} {sa : Nat × Nat} {xs : Nat → Int32} : ∀ (cs : List (List (Nat × Nat))) (o : Nat) (acc : List ia_V) (vacc : List Value), cs.all (fun qs => ia_cov qs 0) = true → ia_all yx ym cs acc = true → (∀ ad, ia_S sa ad acc.reverse vacc) → ∃ as, (∀ ad, ia_S sa ad as (vacc ++ (List.range cs.length).map (fun j => Value.int (xs (o + j + 1))))) ∧ ia_chk yx ym as = true
  | [], o, acc, vacc, _, h2, h3 => ⟨acc.reverse, fun ad => by rw [show ([] : List (List (Nat × Nat))).length = 0 from rfl, List.range_zero, List.map_nil, List.append_nil]; exact h3 ad, h2⟩
  | qs :: t, o, acc, vacc, h1, h2, h3 => by
    rw [List.all_cons, Bool.and_eq_true] at h1
    obtain ⟨q, hq, g1, g2⟩ := ia_cov_ok qs 0 (ia_E (xs (o + 1))) h1.1 (Nat.zero_le _) (ia_E_lt _)
    have h2' : qs.all (fun q => ia_all yx ym t (.inl q :: acc)) = true := h2
    have h4 := List.all_eq_true.mp h2' q hq
    obtain ⟨as, k1, k2⟩ := ia_pick t (o + 1) (.inl q :: acc) (vacc ++ [.int (xs (o + 1))]) h1.2 h4 (fun ad => by
      rw [List.reverse_cons]
      exact ia_S_mk (h3 ad) ⟨_, [], rfl, ⟨_, rfl, g1, g2⟩, rfl⟩)
    refine ⟨as, fun ad => ?_, k2⟩
    have := k1 ad
    rw [List.length_cons, List.range_succ_eq_map, List.map_cons, List.map_map]
    rw [List.append_assoc] at this
    have e1 : (List.range t.length).map ((fun j => Value.int (xs (o + j + 1))) ∘ Nat.succ) = (List.range t.length).map (fun j => Value.int (xs (o + 1 + j + 1))) := by
      congr 1
      funext j
      show Value.int (xs (o + (j + 1) + 1)) = Value.int (xs (o + 1 + j + 1))
      rw [show o + (j + 1) + 1 = o + 1 + j + 1 from by omega]
    rw [e1]
    exact this
section LX2
variable {p : Program} {l : Launch} {e : Env} {s : State} {m : MethodId} {below : List Frame} {meth : Method} {c : Code} {b L : Nat} {xs : Nat → Int32} {D : va_G} {sa : Nat × Nat} {as0 : List Nat} {pc : Nat} {σ : ia_H} {n nc ns ax am ao : Nat}
abbrev lx_lv (b ax am ao : Nat) : List (Nat × Value) := [(4, .int 0), (3, .ref ao), (2, .ref am), (1, .ref ax), (0, .ref b)]
theorem d_law_1321 : decode code 1321 = .ok (.iinc 4 6, 3) := by decide +kernel
theorem d_law_1324 : decode code 1324 = .ok (.goto (-1301), 3) := by decide +kernel
theorem d_law_23 : decode code 23 = .ok (.iload 4, 2) := by decide +kernel
theorem d_law_25 : decode code 25 = .ok (.aload_n 0, 1) := by decide +kernel
theorem d_law_26 : decode code 26 = .ok (.arraylength, 1) := by decide +kernel
theorem d_law_27 : decode code 27 = .ok (.bipush 6, 2) := by decide +kernel
theorem d_law_29 : decode code 29 = .ok (.isub, 1) := by decide +kernel
theorem d_law_30 : decode code 30 = .ok (.if_icmp .gt 1297, 3) := by decide +kernel
theorem d_law_1327 : decode code 1327 = .ok (.iconst 1, 1) := by decide +kernel
theorem d_law_1328 : decode code 1328 = .ok (.ireturn, 1) := by decide +kernel
/-- the end: true -/
theorem lx_ret (C0 : lw_At p s m meth c b L xs) {H : Heap} {locs : List Loc} {ls : Array Slot} (hS : va_S (fun q : Nat => s.heap.size ≤ q) s.heap H locs) (hc : nc ≤ 600002) (hs : ns ≤ 7302232) : W p l e room_1 s m #[Value.ref b] below meth c H locs nc ns (lw_Z below #[Value.ref b] s) (F0 m 1327 ls []) := by
  obtain ⟨hx, hb, hr, hml, hown, hts, hX, hbl, hlocks, hgv⟩ := id C0
  refine lv_iconst (v := 1) hx hb d_law_1327 (by decide) ?_
  refine va_forget (fun q hq => hS.2.2 q hq) ?_
  refine W.widen (k := 600002) (n := 7302232) hc hs ?_
  exact lw_ret hx hb hr hlocks d_law_1328
/-- behind a line -/
theorem lx_end (C0 : lw_At p s m meth c b L xs) (hL : L = 6) (hc : nc ≤ 600002) (hs : ns ≤ 7302232) : lx_W p l e s m below meth c b D sa as0 (lx_lv b ax am ao) 1321 [] σ n nc ns := by
  obtain ⟨hx, hb, hr, hml, hown, hts, hX, hbl, hlocks, hgv⟩ := id C0
  intro H locs ws tys ls hl hG
  obtain ⟨hK, hP, hD, hS, -⟩ := id hG
  have hbA : ¬ (fun q : Nat => s.heap.size ≤ q) b := Nat.not_le.mpr hbl
  refine lv_iinc (v := 6) (lv' := [(4, .int 6), (3, .ref ao), (2, .ref am), (1, .ref ax), (0, .ref b)]) hx hb d_law_1321 hl (k := 0) rfl (by decide) (by decide) rfl (fun ls hl => ?_)
  refine lv_goto (tgt := 23) hx hb d_law_1324 (by decide) ?_
  refine lv_iload hx hb d_law_23 (lv_at hl 0 rfl) ?_
  refine lv_aload_n hx hb d_law_25 rfl (lv_at hl 4 rfl) ?_
  refine va_slen hx hb hX hbl hbA hS d_law_26 ?_
  refine lv_bipush (v := 6) hx hb d_law_27 (by decide) ?_
  refine lv_isub hx hb d_law_29 ?_
  refine lv_icmp_gt (tgt := 1327) hx hb d_law_30 (by decide) (fun _ => lx_ret C0 hS hc hs) (fun q => ?_)
  rw [hL] at q
  exact absurd (by decide) q
/-- the printed line: k arguments -/
def lx_code (pc k ix iy px py yx yy : Nat) (o : Int) : Prop := decode code pc = .ok (.aload_n 1, 1) ∧ (∀ j, j < k → lx_a (pc + 1 + 6 * j) (0 + j + 1)) ∧ decode code (pc + 1 + 6 * k) = .ok (.invokevirtual ix, 3) ∧ decode code (pc + 1 + 6 * k + 3) = .ok (.aload_n 2, 1) ∧ (∀ j, j < k → lx_a (pc + 1 + 6 * k + 3 + 1 + 6 * j) (0 + j + 1)) ∧ decode code (pc + 1 + 6 * k + 3 + 1 + 6 * k) = .ok (.invokevirtual iy, 3) ∧ decode code (pc + 1 + 6 * k + 3 + 1 + 6 * k + 3) = .ok (.if_icmp .eq o, 3) ∧ ((pc + 1 + 6 * k + 3 + 1 + 6 * k + 3 : Nat) : Int) + o = ((1321 : Nat) : Int) ∧ ia_okI 18 (ix, 1, yx, 0, 0, px) = true ∧ ia_okI 18 (iy, 1, yy, 0, 0, py) = true ∧ k ≤ 5 ∧ k + 1 = ia_na yx ∧ k + 1 = ia_na yy ∧ ia_cls yx = 11 ∧ ia_cls yy = 12 ∧ ia_mc yx = 0 ∧ ia_ms yx = 0 ∧ ia_mc yy = 0 ∧ ia_ms yy = 0
noncomputable def lx_dc (pc : Nat) (i : Instr) (k : Nat) : Bool := decide (decode code pc = .ok (i, k))
noncomputable def lx_ab (pc j : Nat) : Bool := lx_dc pc (.aload_n 0) 1 && (lx_dc (pc + 1) (.iload 4) 2 && (lx_dc (pc + 3) (.iconst (j : Int)) 1 && (lx_dc (pc + 4) .iadd 1 && lx_dc (pc + 5) .iaload 1)))
noncomputable def lx_cb (pc k ix iy px py yx yy : Nat) (o : Int) : Bool := lx_dc pc (.aload_n 1) 1 && ((List.range k).all (fun j => lx_ab (pc + 1 + 6 * j) (0 + j + 1)) && (lx_dc (pc + 1 + 6 * k) (.invokevirtual ix) 3 && (lx_dc (pc + 1 + 6 * k + 3) (.aload_n 2) 1 && ((List.range k).all (fun j => lx_ab (pc + 1 + 6 * k + 3 + 1 + 6 * j) (0 + j + 1)) && (lx_dc (pc + 1 + 6 * k + 3 + 1 + 6 * k) (.invokevirtual iy) 3 && (lx_dc (pc + 1 + 6 * k + 3 + 1 + 6 * k + 3) (.if_icmp .eq o) 3 && (decide (((pc + 1 + 6 * k + 3 + 1 + 6 * k + 3 : Nat) : Int) + o = ((1321 : Nat) : Int)) && (ia_okI 18 (ix, 1, yx, 0, 0, px) && (ia_okI 18 (iy, 1, yy, 0, 0, py) && (Nat.ble k 5 && (Nat.beq (k + 1) (ia_na yx) && (Nat.beq (k + 1) (ia_na yy) && (Nat.beq (ia_cls yx) 11 && (Nat.beq (ia_cls yy) 12 && (Nat.beq (ia_mc yx) 0 && (Nat.beq (ia_ms yx) 0 && (Nat.beq (ia_mc yy) 0 && Nat.beq (ia_ms yy) 0)))))))))))))))))
theorem lx_ab_ok {pc j : Nat} (h : lx_ab pc j = true) : lx_a pc j := by
  unfold lx_ab lx_dc at h
  simp only [Bool.and_eq_true, decide_eq_true_eq] at h
  exact h
theorem lx_cb_ok {pc k ix iy px py yx yy : Nat} {o : Int} (h : lx_cb pc k ix iy px py yx yy o = true) : lx_code pc k ix iy px py yx yy o := by
  unfold lx_cb lx_dc at h
  simp only [Bool.and_eq_true, decide_eq_true_eq] at h
  obtain ⟨a1, a2, a3, a4, a5, a6, a7, a8, a9, a10, a11, a12, a13, a14, a15, a16, a17, a18, a19⟩ := h
  exact ⟨a1, fun j hj => lx_ab_ok (List.all_eq_true.mp a2 j (List.mem_range.mpr hj)), a3, a4, fun j hj => lx_ab_ok (List.all_eq_true.mp a5 j (List.mem_range.mpr hj)), a6, a7, a8, a9, a10, ia_ble a11, ia_beq a12, ia_beq a13, ia_beq a14, ia_beq a15, ia_beq a16, ia_beq a17, ia_beq a18, ia_beq a19⟩
theorem lx_two (C0 : lw_At p s m meth c b L xs) (N : ia_N sa (fun q : Nat => s.heap.size ≤ q) s s.heap) (hL : L = 6) (hax : as0[0]? = some ax) (ham : as0[184]? = some am) (hc0 : ∃ c0, ia_get2 ia_S4 0 = some c0 ∧ c0.1 = 11) {k ix iy px py yx yy : Nat} {o : Int} (hq : lx_code pc k ix iy px py yx yy o) (hck : ∃ as, (∀ ad, ia_S sa ad as ([] ++ (List.range k).map (fun j => Value.int (xs (0 + j + 1))))) ∧ ia_chk yx yy as = true) (hc : nc ≤ 600002) (hs : ns ≤ 7302232) : lx_W p l e s m below meth c b D sa as0 (lx_lv b ax am ao) pc [] ia_S4 205 nc ns := by
  obtain ⟨hx, hb, hr, hml, hown, hts, hX, hbl, hlocks, hgv⟩ := id C0
  obtain ⟨a1, a2, a3, a4, a5, a6, a7, a8, a9, a10, a11, a12, a13, a14, a15, a16, a17, a18, a19⟩ := hq
  obtain ⟨as, hS, hk⟩ := hck
  have hl0 : (0, Value.ref b) ∈ lx_lv b ax am ao := by simp [lx_lv]
  have hl1 : (1, Value.ref ax) ∈ lx_lv b ax am ao := by simp [lx_lv]
  have hl2 : (2, Value.ref am) ∈ lx_lv b ax am ao := by simp [lx_lv]
  have hl4 : (4, Value.int 0) ∈ lx_lv b ax am ao := by simp [lx_lv]
  have hlen : as.length = k := by
    have := ia_S_len (hS [])
    rw [List.nil_append, List.length_map, List.length_range] at this
    exact this.symm
  unfold ia_chk at hk
  split at hk
  · rename_i ra σ1 n1 hcall1
    split at hk
    · rename_i rb σ2 n2 hcall2
      simp only [Bool.and_eq_true] at hk
      obtain ⟨b1, b2, b3, b4⟩ := hk
      have b1 := ia_beq b1
      have b2 := ia_beq b2
      have b3 := ia_beq b3
      obtain ⟨c0, hg0, hg1⟩ := hc0
      have hsz : ∀ (vs : List Value), (vs.map fun v => v.category).sum ≤ 8 → True := fun _ _ => trivial
      intro H locs ws tys ls hl hG
      refine lv_aload_n hx hb a1 rfl (hl.2.2 _ hl1) ?_
      refine lx_args (lx := lx_lv b ax am ao) C0 hL hl0 hl4 k 0 [.ref ax] (pc + 1) (by omega) a2 ?_ H locs ws tys ls hl hG
      refine lx_call C0 N (vs := [] ++ (List.range k).map (fun j => Value.int (xs (0 + j + 1)))) (rest := []) a9 a3 (by decide) hcall1 hax ⟨c0, hg0, by rw [hg1, a14], by omega⟩ hS (by omega) ⟨by omega, by omega⟩ (fun v v1 v2 => ?_)
      intro H locs ws tys ls hl hG
      refine lv_aload_n hx hb a4 rfl (hl.2.2 _ hl2) ?_
      refine lx_args (lx := lx_lv b ax am ao) C0 hL hl0 hl4 k 0 [.ref am, .int v] (pc + 1 + 6 * k + 3 + 1) (by omega) a5 ?_ H locs ws tys ls hl hG
      have hg2 : ∃ c0, ia_get2 σ1 184 = some c0 ∧ c0.1 = ia_cls yy ∧ c0.1 < 13 := by
        split at b4
        · rename_i c1 hc1
          have := ia_beq b4
          exact ⟨c1, hc1, by rw [a15]; exact this, by omega⟩
        · cases b4
      refine lx_call C0 N (vs := [] ++ (List.range k).map (fun j => Value.int (xs (0 + j + 1)))) (rest := [.int v]) a10 a6 (Nat.le_of_ble_eq_true rfl) hcall2 ham hg2 hS (by omega) ⟨by omega, by omega⟩ (fun w w1 w2 => ?_)
      intro H locs ws tys ls hl hG
      have hvw : v = w := ia_E_inj (by omega)
      refine lv_icmp_eq (tgt := 1321) hx hb a7 a8 (fun _ => ?_) (fun q => absurd hvw q)
      exact lx_end C0 hL (by omega) (by omega) H locs ws tys ls hl hG
    · cases hk
  · cases hk
end LX2
