/-! ## statics, lengths, new cells, constants -/
section IAM
variable {p : Program} {l : Launch} {e : Env} {R : Room} {s : State} {m : MethodId} {args : Array Value} {below : List Frame} {meth : Method} {c : Code} {Q : State → Prop}
variable {D : va_G} {sa : Nat × Nat} {A : Nat → Prop} {as0 : List Nat} {nL y pc : Nat} {lv : List (Option ia_V)} {st : List ia_V} {σ : ia_H} {n nc ns : Nat} {ih : ia_K} {out : ia_O} {i d : Nat}
theorem ia_s_gs (X : ia_X p R s m args meth c y d) (N : ia_N sa A s s.heap) (hdg : decode (ia_code y) pc = .ok (.getstatic i, 3)) (ihk : ia_IH p l e R s m args below meth c Q D sa A as0 nL y ih out) (h : ia_gs y i ih pc lv st σ n nc ns = some out) : ia_WW p l e R s m args below meth c Q D sa A as0 nL y pc lv st σ n nc ns := by
  obtain ⟨hx, hb, hml, hown, hts, -⟩ := id X
  unfold ia_gs at h
  intro H locs ws tys ls l' vst hl hL hSt hK hP hD hS hn hR hxx h1 h2
  split at h
  · rename_i hpl
    rw [ia_nx_eq] at h
    exact va_gets hx hb N.2.2.2.2.2.1 hS hown (X.hts (ia_is_in (ia_pl_ok hpl))) (fun _ h9 => h9) hdg (ihk _ _ _ _ _ _ _ h H locs ws tys ls l' _ hl hL ⟨_, _, rfl, ⟨1, rfl, by decide, by decide⟩, hSt⟩ hK hP hD hS hn hR hxx h1 h2)
  · rename_i hpl
    rw [ia_nx_eq] at h
    rcases N.2.2.2.2.2.2.1 with hz | ⟨t, hz⟩
    · exact va_gets hx hb hz hS hown (X.hts (ia_is_in (ia_pl_ok hpl))) (fun _ h9 => h9) hdg (ihk _ _ _ _ _ _ _ h H locs ws tys ls l' _ hl hL ⟨_, _, rfl, Or.inl rfl, hSt⟩ hK hP hD hS hn hR hxx h1 h2)
    · exact va_gets hx hb hz hS hown (X.hts (ia_is_in (ia_pl_ok hpl))) (fun _ h9 => h9) hdg (ihk _ _ _ _ _ _ _ h H locs ws tys ls l' _ hl hL ⟨_, _, rfl, Or.inr ⟨t, rfl⟩, hSt⟩ hK hP hD hS hn hR hxx h1 h2)
  · cases h
set_option maxRecDepth 100000 in
theorem ia_ch_ok : ∀ r ∈ ia_chars, ia_E (ia_D r) = r := by decide +kernel
theorem ia_by_at {j r : Nat} (h : ia_at ia_chars j = some r) : j < ia_chars.length ∧ ia_by.getD j 0 = ia_D r ∧ ia_E (ia_D r) = r := by
  rw [ia_at_eq] at h
  refine ⟨(List.getElem?_eq_some_iff.mp h).1, ?_, ia_ch_ok r (List.mem_of_getElem? h)⟩
  rw [List.getD_eq_getElem?_getD, ia_by, List.getElem?_map, h]
  rfl
theorem ia_s_bld (X : ia_X p R s m args meth c y d) (N : ia_N sa A s s.heap) (hdg : decode (ia_code y) pc = .ok (.baload, 1)) (ihk : ia_IH p l e R s m args below meth c Q D sa A as0 nL y ih out) (h : ia_alb ih pc lv st σ n nc ns = some out) : ia_WW p l e R s m args below meth c Q D sa A as0 nL y pc lv st σ n nc ns := by
  obtain ⟨hx, hb, hml, hown, hts, -⟩ := id X
  unfold ia_alb at h
  split at h
  · intro H locs ws tys ls l' vst hl hL hSt hK hP hD hS hn hR hxx h1 h2
    rename_i a t
    obtain ⟨_, _, rfl, ⟨x, rfl, x1, x2⟩, _, vt, rfl, hv1, g3⟩ := hSt
    cases hv1
    obtain ⟨hq, h⟩ := ia_if_eq h
    rw [Bool.and_eq_true] at hq
    split at h
    · rename_i r hr
      rw [ia_nx_eq] at h
      obtain ⟨g1, g2, g4⟩ := ia_by_at hr
      obtain ⟨i1, i2⟩ := ia_idx (k := ia_chars.length) (ia_beq hq.1) (ia_ble hq.2) g1 x1 x2
      obtain ⟨-, -, -, hT⟩ := N.2.2.2.2.1.1 0 (by decide)
      refine va_tb hx hb hT hS i1 (v := .int (ia_D r)) ?_ hdg (ihk _ _ _ _ _ _ _ h H locs ws tys ls l' _ hl hL ⟨_, _, rfl, ⟨_, rfl, by rw [g4]; exact Nat.le_refl _, by rw [g4]; exact Nat.le_refl _⟩, g3⟩ hK hP hD hS hn hR hxx h1 h2)
      rw [i2]
      exact congrArg Value.int g2
    · cases h
  · split at h
    · split at h
      · exact ia_s_ald X hdg (Or.inr (Or.inr (Or.inr (Or.inr (Or.inr ⟨rfl, rfl⟩))))) ihk h
      · exact ia_s_ald X hdg (Or.inr (Or.inr (Or.inl ⟨rfl, rfl⟩))) ihk h
    · cases h
  · cases h
theorem ia_Elen {k : Nat} (h : k < 2147483648) : ia_E (Int32.ofNat k) = k + 2147483648 := by
  unfold ia_E
  rw [show (Int32.ofNat k).toBitVec.toNat = (BitVec.ofNat 32 k).toNat from rfl, BitVec.toNat_ofNat]
  omega
theorem ia_s_len (X : ia_X p R s m args meth c y d) (N : ia_N sa A s s.heap) (hdg : decode (ia_code y) pc = .ok (.arraylength, 1)) (ihk : ia_IH p l e R s m args below meth c Q D sa A as0 nL y ih out) (h : ia_len ih pc lv st σ n nc ns = some out) : ia_WW p l e R s m args below meth c Q D sa A as0 nL y pc lv st σ n nc ns := by
  obtain ⟨hx, hb, hml, hown, hts, -⟩ := id X
  unfold ia_len at h
  intro H locs ws tys ls l' vst hl hL hSt hK hP hD hS hn hR hxx h1 h2
  split at h
  · rename_i k t
    obtain ⟨_, vt, rfl, ⟨b, hkb, rfl⟩, g3⟩ := hSt
    split at h
    · rename_i c0 hc0
      obtain ⟨hq, h⟩ := ia_if_eq h
      simp only [Bool.and_eq_true] at hq
      have q1 := ia_ble hq.1
      have q2 := ia_ble hq.2.1
      have q3 := ia_blt hq.2.2
      rw [ia_pi_eq] at h
      obtain ⟨e0, hw, hc⟩ := hR.at hc0 (by omega) hkb
      have go : ∀ w, ia_v sa (ws.map Prod.fst) (.inl (c0.2.1 + 2147483648, c0.2.1 + 2147483648)) w → W p l e R s m args below meth c H locs nc ns Q (F0 m (pc + 1) ls (w :: vt)) := fun w hw2 => ihk _ _ _ _ _ _ _ h H locs ws tys ls l' _ hl hL ⟨_, _, rfl, hw2, g3⟩ hK hP hD hS hn hR hxx h1 h2
      have hE : ia_v sa (ws.map Prod.fst) (.inl (c0.2.1 + 2147483648, c0.2.1 + 2147483648)) (.int (Int32.ofNat c0.2.1)) := ⟨_, rfl, by rw [ia_Elen q3]; exact Nat.le_refl _, by rw [ia_Elen q3]; exact Nat.le_refl _⟩
      have hx6 : c0.1 = 50 ∨ c0.1 = 51 ∨ c0.1 = 52 ∨ c0.1 = 53 ∨ c0.1 = 54 ∨ c0.1 = 55 := by omega
      have key : ∃ (cA : ClassId) (z : vp_A) (ty : FieldType), e0 = .inl (cA, z) ∧ z.1 = c0.2.1 ∧ (cA, ty) ∈ tys := by
        rcases hx6 with z | z | z | z | z | z
        · obtain ⟨cA, f, rfl, hm, -⟩ := hc.2.1 z; exact ⟨cA, _, _, rfl, rfl, hm⟩
        · obtain ⟨cA, f, rfl, hm, -⟩ := hc.2.2.1 z; exact ⟨cA, _, _, rfl, rfl, hm⟩
        · obtain ⟨cA, f, rfl, hm, -⟩ := hc.2.2.2.1 z; exact ⟨cA, _, _, rfl, rfl, hm⟩
        · obtain ⟨cA, f, rfl, hm, -⟩ := hc.2.2.2.2.1 z; exact ⟨cA, _, _, rfl, rfl, hm⟩
        · obtain ⟨cA, f, rfl, hm, -⟩ := hc.2.2.2.2.2.1 z; exact ⟨cA, _, _, rfl, rfl, hm⟩
        · obtain ⟨cA, f, rfl, hm, -⟩ := hc.2.2.2.2.2.2 z; exact ⟨cA, _, _, rfl, rfl, hm⟩
      obtain ⟨cA, z, ty, rfl, hz, hm⟩ := key
      obtain ⟨t0, ht0⟩ := ia_mem_at hm
      exact va_alen hx hb hK hP k t0 hw ht0 (by rw [hz]) hdg (go _ hE)
    · cases h
  · rename_i t
    obtain ⟨_, vt, rfl, hv0, g3⟩ := hSt
    cases hv0
    rw [ia_nx_eq] at h
    obtain ⟨-, -, -, hT⟩ := N.2.2.2.2.1.1 0 (by decide)
    exact va_tlen hx hb hT hS (v := Int32.ofNat 115) rfl hdg (ihk _ _ _ _ _ _ _ h H locs ws tys ls l' _ hl hL ⟨_, _, rfl, ⟨_, rfl, by decide, by decide⟩, g3⟩ hK hP hD hS hn hR hxx h1 h2)
  · cases h
/-- behind a new cell -/
theorem ia_pushed {ws : va_W} {tys tys' : List (ClassId × FieldType)} {H1 : Heap} {locs : List Loc} {ls : Array Slot} {l' : List (Nat × Value)} {vst : List Value} {cc : ia_C} {q ns2 pc2 : Nat} {e0 : va_E} (ihk : ia_IH p l e R s m args below meth c Q D sa A as0 nL y ih out)
    (h : ih pc2 lv (.inr (.inr (.inl (some n))) :: st) (ia_set2 σ n cc) (Nat.succ n) (Nat.succ nc) ns2 = some out) (hl : lv_has ls nL l') (hL : ia_L sa (ws.map Prod.fst) lv l') (hSt : ia_S sa (ws.map Prod.fst) st vst) (hK : va_K D vwCl tys' s) (hP : va_P D vwCl (ws ++ [(q, e0)]) H1) (hD : va_D A (ws ++ [(q, e0)])) (hS : va_S A s.heap H1 locs) (hn : ws.length = n) (hR : ia_R sa tys σ ws) (ht : ∀ z ∈ tys, z ∈ tys') (he : ia_c sa ((ws ++ [(q, e0)]).map Prod.fst) tys' cc e0)
    (hxx : ∃ x, ws.map Prod.fst = as0 ++ x) (h1 : Nat.succ nc ≤ ia_mc y) (h2 : ns2 ≤ ia_ms y) : W p l e R s m args below meth c H1 locs (nc + 1) ns2 Q (F0 m pc2 ls (.ref q :: vst)) := by
  have hm : ∀ (k b : Nat), (ws.map Prod.fst)[k]? = some b → ((ws ++ [(q, e0)]).map Prod.fst)[k]? = some b := by rw [ia_fst_app]; exact ia_app_mono
  obtain ⟨x, hx⟩ := hxx
  refine ihk _ _ _ _ _ _ _ h H1 locs _ tys' ls l' _ hl (hL.mono hm) ⟨_, _, rfl, ⟨q, ?_, rfl⟩, hSt.mono hm⟩ hK hP hD hS (by rw [List.length_append, hn]; rfl) (hR.push hn ht he) ⟨x ++ [q], by rw [ia_fst_app, hx, List.append_assoc]⟩ h1 h2
  rw [ia_fst_app, List.getElem?_append_right (by rw [List.length_map]; omega), List.length_map, hn, Nat.sub_self]
  rfl
theorem ia_s_no (X : ia_X p R s m args meth c y d) (hA : ∀ q, s.heap.size ≤ q → A q) (hdg : decode (ia_code y) pc = .ok (.new i, 3)) (ihk : ia_IH p l e R s m args below meth c Q D sa A as0 nL y ih out) (h : ia_no y i ih pc lv st σ n nc ns = some out) : ia_WW p l e R s m args below meth c Q D sa A as0 nL y pc lv st σ n nc ns := by
  obtain ⟨hx, hb, hml, hown, hts, -, -, -, -, hRc, hRs, -⟩ := id X
  unfold ia_no at h
  intro H locs ws tys ls l' vst hl hL hSt hK hP hD hS hn hR hxx h1 h2
  split at h
  · rename_i ci z1 z2 z3 hpl
    obtain ⟨r, hr, hlk⟩ := ia_ok6 (ia_pl_ok hpl)
    have hci : ci < 13 := (List.getElem?_eq_some_iff.mp hr).1
    obtain ⟨ty, hty, -, q', hq', hq1, fs, hfs, hfv⟩ := ia_cty hr
    rw [ia_at_eq, hq'] at h
    replace h : ia_mk y (ci, q'.1, q'.2) 3 ih pc lv st σ n nc ns = some out := h
    unfold ia_mk at h
    obtain ⟨hc, h⟩ := ia_if_eq h
    rw [Bool.and_eq_true] at hc
    have hc1 := ia_ble hc.1
    have hc2 : ns + r.2.2 ≤ ia_ms y := by rw [← hq1]; exact ia_ble hc.2
    rw [ia_set2K_eq, ia_frc_eq, ia_nx_eq] at h
    refine va_new (D := D) (ci := ci) (fs := fs) (C := r.1) (T := r.2.1) (N := r.2.2) hx hb (ia_hts X) (ia_okC_at hr).1 ty hty hown (X.hts hlk) (X.hts (ia_okC_at hr).2.1) (X.hts (ia_okC_at hr).2.2.1) hK hP hD hS hA hr hfs (by rw [hRc]; exact hc1) (by rw [hRs]; exact hc2) hdg (fun q H1 hP1 hD1 hS1 => ?_)
    have h' : ih (pc + 3) lv (.inr (.inr (.inl (some n))) :: st) (ia_set2 σ n (ci, q'.1, q'.2)) (Nat.succ n) (Nat.succ nc) (ns + r.2.2) = some out := by rw [← hq1]; exact h
    refine ia_pushed ihk h' hl hL hSt hK hP1 hD1 hS1 hn hR (fun _ z => z) ?_ hxx hc1 hc2
    exact ⟨fun _ => ⟨fs, rfl, fun k a hk => hfv _ _ k a hk⟩, fun z => absurd z (by show ¬ ci = 50; omega), fun z => absurd z (by show ¬ ci = 51; omega), fun z => absurd z (by show ¬ ci = 52; omega), fun z => absurd z (by show ¬ ci = 53; omega), fun z => absurd z (by show ¬ ci = 54; omega), fun z => absurd z (by show ¬ ci = 55; omega)⟩
  · cases h
theorem ia_rows_at {k j : Nat} {z a : ia_V} (h : ia_get2 (ia_rows k z) j = some a) : a = z := by
  obtain ⟨c0, h1, h2⟩ := ia_get2_eq h
  unfold ia_rows at h1
  rw [List.getElem?_replicate] at h1
  split at h1
  · cases h1
    rw [List.getElem?_replicate] at h2
    split at h2
    · exact (Option.some.inj h2).symm
    · cases h2
  · cases h1
theorem ia_na1_ok {tg len : Nat} {z : ia_V} (h : ia_na1 y tg len z ih pc lv st σ n nc ns = some out) : ∃ (a : Nat × Nat) (t : List ia_V), st = .inl a :: t ∧ a.1 = a.2 ∧ 2147483648 ≤ a.1 ∧ a.1 ≤ 2147493648 ∧ Nat.succ nc ≤ ia_mc y ∧ ns + (a.1 - 2147483648) ≤ ia_ms y ∧ ih (pc + len) lv (.inr (.inr (.inl (some n))) :: t) (ia_set2 σ n (tg, a.1 - 2147483648, ia_rows (a.1 - 2147483648) z)) (Nat.succ n) (Nat.succ nc) (ns + (a.1 - 2147483648)) = some out := by
  unfold ia_na1 at h
  split at h
  · rename_i a t
    obtain ⟨hq, h⟩ := ia_if_eq h
    simp only [Bool.and_eq_true] at hq
    rw [ia_frc_eq] at h
    unfold ia_mk at h
    obtain ⟨hc, h⟩ := ia_if_eq h
    rw [Bool.and_eq_true] at hc
    rw [ia_set2K_eq, ia_frc_eq, ia_nx_eq] at h
    exact ⟨a, t, rfl, ia_beq hq.1, ia_ble hq.2.1, ia_ble hq.2.2, ia_ble hc.1, ia_ble hc.2, h⟩
  · cases h
theorem ia_s_newp (X : ia_X p R s m args meth c y d) (hA : ∀ q, s.heap.size ≤ q → A q) {atype : ClassFile.ArrayType} {tg : Nat} (hdg : decode (ia_code y) pc = .ok (.newarray atype, 2)) (hk : (tg = 50 ∧ atype = .int) ∨ (tg = 52 ∧ atype = .byte) ∨ (tg = 53 ∧ atype = .boolean)) (ihk : ia_IH p l e R s m args below meth c Q D sa A as0 nL y ih out) (h : ia_na1 y tg 2 ia_z ih pc lv st σ n nc ns = some out) : ia_WW p l e R s m args below meth c Q D sa A as0 nL y pc lv st σ n nc ns := by
  obtain ⟨hx, hb, hml, hown, hts, -, -, -, -, hRc, hRs, -⟩ := id X
  obtain ⟨a, t, rfl, e1, e2, e3, c1, c2, h⟩ := ia_na1_ok h
  intro H locs ws tys ls l' vst hl hL hSt hK hP hD hS hn hR hxx h1 h2
  obtain ⟨_, vt, rfl, ⟨x, rfl, x1, x2⟩, g3⟩ := hSt
  have hE : ia_E x = a.1 := ia_one e1 x1 x2
  have hcl := ia_cl (x := x) (by omega)
  rw [hE] at hcl
  have hneg : ¬ x < 0 := by rw [ia_neg]; omega
  have fin : ∀ (ty : FieldType) (q : Nat) (cA : ClassId) (H1 : Heap), ((tg = 50 → ty = .int) ∧ (tg = 52 → ty = .byte) ∧ (tg = 53 → ty = .boolean)) → va_K D vwCl (tys ++ [(cA, ty)]) s → va_P D vwCl (ws ++ [(q, .inl (cA, (a.1 - 2147483648, .inl (fun _ => (0 : Int32)))))]) H1 → va_D A (ws ++ [(q, .inl (cA, (a.1 - 2147483648, .inl (fun _ => (0 : Int32)))))]) → va_S A s.heap H1 locs → W p l e R s m args below meth c H1 locs (nc + 1) (ns + (a.1 - 2147483648)) Q (F0 m (pc + 2) ls (.ref q :: vt)) := by
    intro ty q cA H1 htt hK1 hP1 hD1 hS1
    have hci : ∀ (ad : List Nat) (ty' : FieldType), ty' = ty → ia_ci sa ad (tys ++ [(cA, ty)]) ty' (tg, a.1 - 2147483648, ia_rows (a.1 - 2147483648) ia_z) (.inl (cA, (a.1 - 2147483648, .inl (fun _ => (0 : Int32))))) := fun ad ty' e' => ⟨cA, _, rfl, by rw [e']; exact List.mem_append_right _ List.mem_cons_self, fun k a' hk _ => by
      rw [ia_rows_at hk]
      exact ⟨0, rfl, by rw [ia_E0]; exact Nat.le_refl _, by rw [ia_E0]; exact Nat.le_refl _⟩⟩
    refine ia_pushed ihk h hl hL g3 hK1 hP1 hD1 hS1 hn hR (fun _ z => List.mem_append_left _ z) ?_ hxx c1 c2
    have hz : tg = 50 ∨ tg = 52 ∨ tg = 53 := by rcases hk with z | z | z <;> simp [z.1]
    exact ⟨fun z => absurd z (by show ¬ tg < 50; omega), fun z => hci _ _ (htt.1 z).symm, fun z => absurd z (by show ¬ tg = 51; omega), fun z => hci _ _ (htt.2.1 z).symm, fun z => hci _ _ (htt.2.2 z).symm, fun z => absurd z (by show ¬ tg = 54; omega), fun z => absurd z (by show ¬ tg = 55; omega)⟩
  rcases hk with ⟨rfl, rfl⟩ | ⟨rfl, rfl⟩ | ⟨rfl, rfl⟩
  · exact va_newa (ty := .int) (a0 := (a.1 - 2147483648, .inl (fun _ => (0 : Int32)))) hx hb (X.hts (ia_is_in ia_aci)) rfl hK hP hD hS hA (fun _ => rfl) hneg hcl (by show (a.1 - 2147483648) * 4 ≤ _; omega) (by rw [hRc]; exact c1) (by rw [hRs]; exact c2) hdg (fun q cA H1 hK1 hP1 hD1 hS1 => fin _ q cA H1 ⟨fun _ => rfl, fun z => by omega, fun z => by omega⟩ hK1 hP1 hD1 hS1)
  · exact va_newa (ty := .byte) (a0 := (a.1 - 2147483648, .inl (fun _ => (0 : Int32)))) hx hb (X.hts (ia_is_in ia_acb)) rfl hK hP hD hS hA (fun _ => rfl) hneg hcl (by show (a.1 - 2147483648) * 1 ≤ _; omega) (by rw [hRc]; exact c1) (by rw [hRs]; exact c2) hdg (fun q cA H1 hK1 hP1 hD1 hS1 => fin _ q cA H1 ⟨fun z => by omega, fun _ => rfl, fun z => by omega⟩ hK1 hP1 hD1 hS1)
  · exact va_newa (ty := .boolean) (a0 := (a.1 - 2147483648, .inl (fun _ => (0 : Int32)))) hx hb (X.hts (ia_is_in ia_acz)) rfl hK hP hD hS hA (fun _ => rfl) hneg hcl (by show (a.1 - 2147483648) * 1 ≤ _; omega) (by rw [hRc]; exact c1) (by rw [hRs]; exact c2) hdg (fun q cA H1 hK1 hP1 hD1 hS1 => fin _ q cA H1 ⟨fun z => by omega, fun z => by omega, fun _ => rfl⟩ hK1 hP1 hD1 hS1)
theorem ia_s_newl (X : ia_X p R s m args meth c y d) (hA : ∀ q, s.heap.size ≤ q → A q) (hdg : decode (ia_code y) pc = .ok (.newarray .long, 2)) (ihk : ia_IH p l e R s m args below meth c Q D sa A as0 nL y ih out) (h : ia_na1 y 51 2 (.inr (.inl 0)) ih pc lv st σ n nc ns = some out) : ia_WW p l e R s m args below meth c Q D sa A as0 nL y pc lv st σ n nc ns := by
  obtain ⟨hx, hb, hml, hown, hts, -, -, -, -, hRc, hRs, -⟩ := id X
  obtain ⟨a, t, rfl, e1, e2, e3, c1, c2, h⟩ := ia_na1_ok h
  intro H locs ws tys ls l' vst hl hL hSt hK hP hD hS hn hR hxx h1 h2
  obtain ⟨_, vt, rfl, ⟨x, rfl, x1, x2⟩, g3⟩ := hSt
  have hE : ia_E x = a.1 := ia_one e1 x1 x2
  have hcl := ia_cl (x := x) (by omega)
  rw [hE] at hcl
  have hneg : ¬ x < 0 := by rw [ia_neg]; omega
  refine va_newa (ty := .long) (a0 := (a.1 - 2147483648, .inr (.inl (fun _ => (0 : Int64))))) hx hb (X.hts (ia_is_in ia_acj)) rfl hK hP hD hS hA (fun _ => rfl) hneg hcl (by show (a.1 - 2147483648) * 8 ≤ _; omega) (by rw [hRc]; exact c1) (by rw [hRs]; exact c2) hdg (fun q cA H1 hK1 hP1 hD1 hS1 => ?_)
  refine ia_pushed ihk h hl hL g3 hK1 hP1 hD1 hS1 hn hR (fun _ z => List.mem_append_left _ z) ?_ hxx c1 c2
  exact ⟨fun z => absurd (show (51 : Nat) < 50 from z) (by decide), fun z => absurd (show (51 : Nat) = 50 from z) (by decide), fun _ => ⟨cA, _, rfl, List.mem_append_right _ List.mem_cons_self, fun k a' hk _ => by rw [ia_rows_at hk]; rfl⟩, fun z => absurd (show (51 : Nat) = 52 from z) (by decide), fun z => absurd (show (51 : Nat) = 53 from z) (by decide), fun z => absurd (show (51 : Nat) = 54 from z) (by decide), fun z => absurd (show (51 : Nat) = 55 from z) (by decide)⟩
theorem ia_s_newr (X : ia_X p R s m args meth c y d) (N : ia_N sa A s s.heap) (hA : ∀ q, s.heap.size ≤ q → A q) (hdg : decode (ia_code y) pc = .ok (.anewarray i, 3)) (ihk : ia_IH p l e R s m args below meth c Q D sa A as0 nL y ih out) (h : ia_nr1 y i ih pc lv st σ n nc ns = some out) : ia_WW p l e R s m args below meth c Q D sa A as0 nL y pc lv st σ n nc ns := by
  obtain ⟨hx, hb, hml, hown, hts, -, -, -, -, hRc, hRs, -⟩ := id X
  unfold ia_nr1 at h
  split at h
  · rename_i z1 z2 z3 hpl
    obtain ⟨r, hr, hlk⟩ := ia_ok6 (ia_pl_ok hpl)
    cases hr
    obtain ⟨a, t, rfl, e1, e2, e3, c1, c2, h⟩ := ia_na1_ok h
    intro H locs ws tys ls l' vst hl hL hSt hK hP hD hS hn hR hxx h1 h2
    obtain ⟨_, vt, rfl, ⟨x, rfl, x1, x2⟩, g3⟩ := hSt
    have hE : ia_E x = a.1 := ia_one e1 x1 x2
    have hcl := ia_cl (x := x) (by omega)
    rw [hE] at hcl
    have hneg : ¬ x < 0 := by rw [ia_neg]; omega
    refine va_newq (C := RX3) hx hb hown (X.hts hlk) N.2.1 hK hP hD hS hA hneg hcl (by omega) (by rw [hRc]; exact c1) (by rw [hRs]; exact c2) hdg (fun q cA H1 hK1 hP1 hD1 hS1 => ?_)
    refine ia_pushed ihk h hl hL g3 hK1 hP1 hD1 hS1 hn hR (fun _ z => List.mem_append_left _ z) ?_ hxx c1 c2
    exact ⟨fun z => absurd (show (54 : Nat) < 50 from z) (by decide), fun z => absurd (show (54 : Nat) = 50 from z) (by decide), fun z => absurd (show (54 : Nat) = 51 from z) (by decide), fun z => absurd (show (54 : Nat) = 52 from z) (by decide), fun z => absurd (show (54 : Nat) = 53 from z) (by decide), fun _ => ⟨cA, _, rfl, List.mem_append_right _ List.mem_cons_self, fun k a' hk _ => by rw [ia_rows_at hk]; rfl⟩, fun z => absurd (show (54 : Nat) = 55 from z) (by decide)⟩
  · rename_i z1 z2 z3 hpl
    obtain ⟨r, hr, hlk⟩ := ia_ok6 (ia_pl_ok hpl)
    cases hr
    obtain ⟨a, t, rfl, e1, e2, e3, c1, c2, h⟩ := ia_na1_ok h
    intro H locs ws tys ls l' vst hl hL hSt hK hP hD hS hn hR hxx h1 h2
    obtain ⟨_, vt, rfl, ⟨x, rfl, x1, x2⟩, g3⟩ := hSt
    have hE : ia_E x = a.1 := ia_one e1 x1 x2
    have hcl := ia_cl (x := x) (by omega)
    rw [hE] at hcl
    have hneg : ¬ x < 0 := by rw [ia_neg]; omega
    refine va_newq (C := RX7) hx hb hown (X.hts hlk) N.2.2.1 hK hP hD hS hA hneg hcl (by omega) (by rw [hRc]; exact c1) (by rw [hRs]; exact c2) hdg (fun q cA H1 hK1 hP1 hD1 hS1 => ?_)
    refine ia_pushed ihk h hl hL g3 hK1 hP1 hD1 hS1 hn hR (fun _ z => List.mem_append_left _ z) ?_ hxx c1 c2
    exact ⟨fun z => absurd (show (55 : Nat) < 50 from z) (by decide), fun z => absurd (show (55 : Nat) = 50 from z) (by decide), fun z => absurd (show (55 : Nat) = 51 from z) (by decide), fun z => absurd (show (55 : Nat) = 52 from z) (by decide), fun z => absurd (show (55 : Nat) = 53 from z) (by decide), fun z => absurd (show (55 : Nat) = 54 from z) (by decide), fun _ => ⟨cA, _, rfl, List.mem_append_right _ List.mem_cons_self, fun k a' hk _ => by rw [ia_rows_at hk]; rfl⟩⟩
  · cases h
end IAM
