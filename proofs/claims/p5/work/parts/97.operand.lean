/-! ## by hand: behind and operand of the reference (wip/p2/gen97.py) -/
theorem aw_fb {y ci : Nat} {x : Int32} (h : x.toInt = 0 ∨ x.toInt = 1) : ia_fit y ci 1 (cm_e (.inl x)) = true := by
  show (Nat.beq (ia_E x) (ia_E x) && (Nat.beq (ia_E x) 2147483648 || Nat.beq (ia_E x) 2147483649)) = true
  have e := hb_E x
  rcases h with h | h
  · rw [show ia_E x = 2147483648 from by omega]; decide
  · rw [show ia_E x = 2147483649 from by omega]; decide
theorem hJs_fr {w v : cm_W} {c t n b H : Nat} (h : hJs w c t n b H) (h1 : ∀ j, v.1 188 j = w.1 188 j) (h2 : ∀ j, v.1 199 j = w.1 199 j) (h3 : ∀ i, 39 ≤ i → i ≤ 43 → i ≠ 42 → v.1 184 i = w.1 184 i) : hJs v c t n b H := by
  obtain ⟨j1, j2, j3, j4, j5, j6, j7, j8, j9⟩ := h
  have e1 : (fun j => v.1 188 j) = (fun j => w.1 188 j) := funext h1
  have e2 : (fun j => v.1 199 j) = (fun j => w.1 199 j) := funext h2
  refine ⟨by rw [h3 39 (by omega) (by omega) (by omega)]; exact j1, by rw [h3 41 (by omega) (by omega) (by omega)]; exact j2, by rw [h3 40 (by omega) (by omega) (by omega)]; exact j3, by rw [h3 43 (by omega) (by omega) (by omega)]; exact j4, fun j hj => by rw [h2 j]; exact j5 j hj, ?_, ?_, j8, j9⟩
  · rw [e1]; exact j6
  · rw [e2]; exact j7
/-- a joint is pushed -/
theorem hJs_join {w v : cm_W} {c t n H : Nat} (h : hJs w c t n 1 H) (h1 : ∀ j, v.1 188 j = w.1 188 j) (h2 : ∀ j, j ≠ t → v.1 199 j = w.1 199 j) (h3 : 21 ≤ (v.1 199 t).toInt ∧ (v.1 199 t).toInt ≤ 22) (h4 : v.1 184 39 = w.1 184 39) (h5 : v.1 184 40 = w.1 184 40) (h6 : (v.1 184 41).toInt = (t : Int) + 1) (h7 : (v.1 184 43).toInt = 0) : hJs v c (t + 1) n 0 H := by
  obtain ⟨j1, j2, j3, j4, j5, j6, j7, j8, j9⟩ := h
  have e1 : (fun j => v.1 188 j) = (fun j => w.1 188 j) := funext h1
  refine ⟨by rw [h4]; exact j1, by rw [h6]; omega, by rw [h5]; exact j3, h7, fun j hj => ?_, by rw [e1]; exact j6, ?_, by omega, j9⟩
  · by_cases e : j = t
    · rw [e]; omega
    · rw [h2 j e]; exact j5 j (by omega)
  · show H = hA (fun j => v.1 199 j) t + (if 21 ≤ (v.1 199 t).toInt ∧ (v.1 199 t).toInt ≤ 22 then 1 else 0) + 0
    rw [if_pos h3, hA_eq (g := fun j => w.1 199 j) t (fun j hj => h2 j (by omega))]
    omega
/-- a bracket is closed -/
theorem hJs_close {w v : cm_W} {c t n H : Nat} (h : hJs w c (t + 1) n 1 H) (h0 : ¬ (21 ≤ (w.1 199 t).toInt ∧ (w.1 199 t).toInt ≤ 22)) (h1 : ∀ j, v.1 188 j = w.1 188 j) (h2 : ∀ j, v.1 199 j = w.1 199 j) (h4 : v.1 184 39 = w.1 184 39) (h5 : v.1 184 40 = w.1 184 40) (h6 : (v.1 184 41).toInt = (t : Int)) (h7 : v.1 184 43 = w.1 184 43) : hJs v c t n 1 H := by
  obtain ⟨j1, j2, j3, j4, j5, j6, j7, j8, j9⟩ := h
  have e1 : (fun j => v.1 188 j) = (fun j => w.1 188 j) := funext h1
  have e2 : (fun j => v.1 199 j) = (fun j => w.1 199 j) := funext h2
  have j7' : H = hA (fun j => w.1 199 j) t + (if 21 ≤ (w.1 199 t).toInt ∧ (w.1 199 t).toInt ≤ 22 then 1 else 0) + 1 := j7
  rw [if_neg h0] at j7'
  exact ⟨by rw [h4]; exact j1, h6, by rw [h5]; exact j3, by rw [h7]; exact j4, fun j hj => by rw [h2 j]; exact j5 j (by omega), by rw [e1]; exact j6, by rw [e2]; exact j7', by omega, j9⟩
/-- a not or a bracket is pushed -/
theorem hJs_open {w v : cm_W} {c t n H : Nat} (h : hJs w c t n 0 H) (hn : n < 20) (h1 : ∀ j, v.1 188 j = w.1 188 j) (h2 : ∀ j, j ≠ t → v.1 199 j = w.1 199 j) (h3 : (v.1 199 t).toInt = 20 ∨ (v.1 199 t).toInt = 23) (h4 : v.1 184 39 = w.1 184 39) (h5 : (v.1 184 40).toInt = (n : Int) + 1) (h6 : (v.1 184 41).toInt = (t : Int) + 1) (h7 : v.1 184 43 = w.1 184 43) : hJs v c (t + 1) (n + 1) 0 H := by
  obtain ⟨j1, j2, j3, j4, j5, j6, j7, j8, j9⟩ := h
  have e1 : (fun j => v.1 188 j) = (fun j => w.1 188 j) := funext h1
  refine ⟨by rw [h4]; exact j1, by rw [h6]; omega, by rw [h5]; omega, by rw [h7]; exact j4, fun j hj => ?_, by rw [e1]; exact j6, ?_, by omega, by omega⟩
  · by_cases e : j = t
    · rw [e]; omega
    · rw [h2 j e]; exact j5 j (by omega)
  · show H = hA (fun j => v.1 199 j) t + (if 21 ≤ (v.1 199 t).toInt ∧ (v.1 199 t).toInt ≤ 22 then 1 else 0) + 0
    rw [if_neg (by omega), hA_eq (g := fun j => w.1 199 j) t (fun j hj => h2 j (by omega))]
    exact j7
/-- a leaf -/
theorem hJs_leaf {w v : cm_W} {c t n H : Nat} {a b m : Int32} (h : hJs w c t n 0 H) (hn : n < 20) (h1 : ∀ j, v.1 188 j = w.1 188 j) (h2 : ∀ j, v.1 199 j = w.1 199 j) (h4 : v.1 184 39 = w.1 184 39) (h5 : (v.1 184 40).toInt = (n : Int) + 1) (h6 : v.1 184 41 = w.1 184 41) (h7 : (v.1 184 43).toInt = 1) (ha : 0 ≤ a.toInt ∧ a.toInt ≤ 7) (hm : a.toInt = 2 ∨ a.toInt = 3 → 0 ≤ m.toInt ∧ m.toInt ≤ 5) : hJs (hcd v c a b m) (c + 1) t (n + 1) 1 (H + 1) := by
  obtain ⟨j1, j2, j3, j4, j5, j6, j7, j8, j9⟩ := h
  have hc : (v.1 184 39).toInt = (c : Int) := by rw [h4]; exact j1
  refine ⟨hcd_c hc (by omega), by rw [hcd_o (by decide) (by omega), h6]; exact j2, by rw [hcd_o (by decide) (by omega), h5]; omega, by rw [hcd_o (by decide) (by omega), h7]; rfl, fun j hj => by rw [hcd_o (by decide) (by omega), h2 j]; exact j5 j hj, hPq_push j6 (fun j hj => by rw [hcd_l hj, h1 j]) (.inr (.inr ⟨?_, ?_, rfl, fun hh => ?_⟩)) (Nat.le_refl _), ?_, by omega, by omega⟩
  · show 0 ≤ ((hcd v c a b m).1 188 (3 * c)).toInt
    rw [hcd_0]; exact ha.1
  · show ((hcd v c a b m).1 188 (3 * c)).toInt ≤ 7
    rw [hcd_0]; exact ha.2
  · show 0 ≤ ((hcd v c a b m).1 188 (3 * c + 2)).toInt ∧ ((hcd v c a b m).1 188 (3 * c + 2)).toInt ≤ 5
    have hh' : ((hcd v c a b m).1 188 (3 * c)).toInt = 2 ∨ ((hcd v c a b m).1 188 (3 * c)).toInt = 3 := hh
    rw [hcd_0] at hh'
    rw [hcd_2]
    exact hm hh'
  · rw [hA_eq (g := fun j => w.1 199 j) t (fun j _ => by rw [hcd_o (by decide) (by omega), h2 j])]
    omega
theorem hFs_cd {w0 w : cm_W} {c : Nat} {a b n : Int32} (h : hFs w0 w) : hFs w0 (hcd w c a b n) := fun k i x1 x2 x3 => (hcd_o x2 (by omega)).trans (h k i x1 x2 x3)
set_option maxRecDepth 100000 in
theorem xd_a9336e10 : decode (ia_code 243) 0 = .ok (.aload_n 0, 1) := fdd_d (by decide +kernel)
set_option maxRecDepth 100000 in
theorem xl_9fb905c4 : ia_pl (ia_cls 243) 429 = some (1, 276, 0, 0, 2032) := by decide +kernel
set_option maxRecDepth 100000 in
theorem xn_e3da6fee : ia_na 276 = 1 := by decide +kernel
set_option maxRecDepth 100000 in
theorem xc_fa74d1ed : ia_mc 276 = 0 ∧ ia_ms 276 = 0 := ⟨by decide +kernel, by decide +kernel⟩
set_option maxRecDepth 100000 in
theorem xv_36cad7ca : cm_rcv 276 [.inr (.inr (some 184))] = true := by decide +kernel
set_option maxRecDepth 100000 in
theorem xd_48e46800 : decode (ia_code 243) 1 = .ok (.invokevirtual 429, 3) := fdd_d (by decide +kernel)
set_option maxRecDepth 100000 in
theorem xd_a96fcf83 : decode (ia_code 243) 4 = .ok (.aload_n 0, 1) := fdd_d (by decide +kernel)
set_option maxRecDepth 100000 in
theorem xd_3761b37c : decode (ia_code 243) 5 = .ok (.ldc2_w 120, 3) := fdd_d (by decide +kernel)
set_option maxRecDepth 100000 in
theorem xl_7e74c0a9 : ia_pl (ia_cls 243) 120 = some (9, 6385252, 0, 0, 1482) := by decide +kernel
set_option maxRecDepth 100000 in
theorem xg_d6f571af : sv_g sg 184 11 = (2147483648, 2147483652) := by decide +kernel
set_option maxRecDepth 100000 in
theorem xs_120_037aea58 {l1 : Int64} {w : cm_W} (hG : sv_w sg w) : ∃ x : Int32, cm_C 1 120 [.inr (.inr (some 184)), .inr (.inl l1)] w (some (.inl x), w) ∧ ((x.toInt = 1) ∨ (x.toInt = 0)) := by
  obtain ⟨r, w', hC, hG', hF, q, hq, hr, hp, hs⟩ := wk_use (d := 1) sm_120_037aea58_ok (by decide) (as := [.inr (.inr (some 184)), .inr (.inl l1)]) (w := w) ⟨rfl, trivial, trivial⟩ (fun f hf => by
    rcases List.mem_cons.mp hf with rfl | hf
    · exact ⟨(by have h9 := hG 184 11; rw [xg_d6f571af] at h9; exact h9), .inl rfl, .inl rfl⟩
    cases hf) hG
  have ew : w' = w := Prod.ext (funext fun k => funext fun i => (hF k i (fun ⟨r, z, _⟩ => by cases z)).1) (funext fun k => funext fun i => (hF k i (fun ⟨r, z, _⟩ => by cases z)).2)
  subst ew
  simp only [sm_120_037aea58, List.mem_cons, List.not_mem_nil, or_false] at hq
  rcases hq with rfl | rfl
  · obtain ⟨x, rfl, hx⟩ := wk_int hr
    have hx := hb_in hx
    exact ⟨x, hC, Or.inl (by omega)⟩
  · obtain ⟨x, rfl, hx⟩ := wk_int hr
    have hx := hb_in hx
    exact ⟨x, hC, Or.inr ((by omega))⟩
set_option maxRecDepth 100000 in
theorem xl_e0444f12 : ia_pl (ia_cls 243) 210 = some (1, 120, 0, 0, 1664) := by decide +kernel
set_option maxRecDepth 100000 in
theorem xn_94b640da : ia_na 120 = 2 := by decide +kernel
set_option maxRecDepth 100000 in
theorem xc_24159032 : ia_mc 120 = 0 ∧ ia_ms 120 = 0 := ⟨by decide +kernel, by decide +kernel⟩
set_option maxRecDepth 100000 in
theorem xv_bdbd9e17 : cm_rcv 120 [.inr (.inr (some 184))] = true := by decide +kernel
set_option maxRecDepth 100000 in
theorem xd_d968e3bc : decode (ia_code 243) 8 = .ok (.invokevirtual 210, 3) := fdd_d (by decide +kernel)
set_option maxRecDepth 100000 in
theorem xd_3943ba61 : decode (ia_code 243) 11 = .ok (.ifCond .ne 13, 3) := fdd_d (by decide +kernel)
set_option maxRecDepth 100000 in
theorem xd_cd34f6fa : decode (ia_code 243) 24 = .ok (.aload_n 0, 1) := fdd_d (by decide +kernel)
set_option maxRecDepth 100000 in
theorem xd_56471c2e : decode (ia_code 243) 25 = .ok (.aload_n 0, 1) := fdd_d (by decide +kernel)
set_option maxRecDepth 100000 in
theorem xd_46c288f5 : decode (ia_code 243) 26 = .ok (.ldc2_w 120, 3) := fdd_d (by decide +kernel)
set_option maxRecDepth 100000 in
theorem xd_539048ee : decode (ia_code 243) 29 = .ok (.invokevirtual 210, 3) := fdd_d (by decide +kernel)
set_option maxRecDepth 100000 in
theorem xd_3e2ac829 : decode (ia_code 243) 32 = .ok (.ifCond .eq 8, 3) := fdd_d (by decide +kernel)
set_option maxRecDepth 100000 in
theorem xd_0719d7b3 : decode (ia_code 243) 40 = .ok (.bipush 22, 2) := fdd_d (by decide +kernel)
set_option maxRecDepth 100000 in
theorem xl_701b531b : ia_pl (ia_cls 243) 432 = some (1, 269, 0, 0, 2040) := by decide +kernel
set_option maxRecDepth 100000 in
theorem xn_33df7a20 : ia_na 269 = 2 := by decide +kernel
set_option maxRecDepth 100000 in
theorem xc_445d2b36 : ia_mc 269 = 0 ∧ ia_ms 269 = 0 := ⟨by decide +kernel, by decide +kernel⟩
set_option maxRecDepth 100000 in
theorem xv_fe70f5fc : cm_rcv 269 [.inr (.inr (some 184))] = true := by decide +kernel
set_option maxRecDepth 100000 in
theorem xd_2a10e77b : decode (ia_code 243) 42 = .ok (.invokevirtual 432, 3) := fdd_d (by decide +kernel)
set_option maxRecDepth 100000 in
theorem xd_e67a4e7e : decode (ia_code 243) 45 = .ok (.aload_n 0, 1) := fdd_d (by decide +kernel)
set_option maxRecDepth 100000 in
theorem xd_4c70184a : decode (ia_code 243) 46 = .ok (.getfield 80, 3) := fdd_d (by decide +kernel)
set_option maxRecDepth 100000 in
theorem xf_a2e724fb : wk_gf 243 80 184 38 (199 + 3) = true := by decide +kernel
set_option maxRecDepth 100000 in
theorem xd_e69faccb : decode (ia_code 243) 49 = .ok (.aload_n 0, 1) := fdd_d (by decide +kernel)
set_option maxRecDepth 100000 in
theorem xd_1ad0f29f : decode (ia_code 243) 50 = .ok (.getfield 410, 3) := fdd_d (by decide +kernel)
set_option maxRecDepth 100000 in
theorem xf_6a36cb46 : wk_gf 243 410 184 41 0 = true := by decide +kernel
set_option maxRecDepth 100000 in
theorem xd_8a955923 : decode (ia_code 243) 53 = .ok (.aload_n 0, 1) := fdd_d (by decide +kernel)
set_option maxRecDepth 100000 in
theorem xd_51a9b852 : decode (ia_code 243) 54 = .ok (.ldc2_w 120, 3) := fdd_d (by decide +kernel)
set_option maxRecDepth 100000 in
theorem xd_ba6a6e15 : decode (ia_code 243) 57 = .ok (.invokevirtual 210, 3) := fdd_d (by decide +kernel)
set_option maxRecDepth 100000 in
theorem xd_24adf342 : decode (ia_code 243) 60 = .ok (.ifCond .eq 8, 3) := fdd_d (by decide +kernel)
set_option maxRecDepth 100000 in
theorem xd_de9b589a : decode (ia_code 243) 68 = .ok (.bipush 22, 2) := fdd_d (by decide +kernel)
set_option maxRecDepth 100000 in
theorem xd_80c60001 : decode (ia_code 243) 70 = .ok (.iastore, 1) := fdd_d (by decide +kernel)
set_option maxRecDepth 100000 in
theorem xh_5d7eb382 : ∀ i, i < 45 → sv_g sg 199 i = sv_top := by decide +kernel
set_option maxRecDepth 100000 in
theorem xd_be3846c5 : decode (ia_code 243) 71 = .ok (.aload_n 0, 1) := fdd_d (by decide +kernel)
set_option maxRecDepth 100000 in
theorem xd_6694be62 : decode (ia_code 243) 72 = .ok (.dup, 1) := fdd_d (by decide +kernel)
set_option maxRecDepth 100000 in
theorem xd_359f29e5 : decode (ia_code 243) 73 = .ok (.getfield 410, 3) := fdd_d (by decide +kernel)
set_option maxRecDepth 100000 in
theorem xd_93defcab : decode (ia_code 243) 76 = .ok (.iconst 1, 1) := fdd_d (by decide +kernel)
set_option maxRecDepth 100000 in
theorem xd_fae99263 : decode (ia_code 243) 77 = .ok (.iadd, 1) := fdd_d (by decide +kernel)
set_option maxRecDepth 100000 in
theorem xd_cd5db005 : decode (ia_code 243) 78 = .ok (.putfield 410, 3) := fdd_d (by decide +kernel)
set_option maxRecDepth 100000 in
theorem xf_18a7eb18 : wk_pf 243 410 184 41 0 = true := by decide +kernel
set_option maxRecDepth 100000 in
theorem xd_5d2d4d0c : decode (ia_code 243) 81 = .ok (.aload_n 0, 1) := fdd_d (by decide +kernel)
set_option maxRecDepth 100000 in
theorem xd_841f9d93 : decode (ia_code 243) 82 = .ok (.iconst 0, 1) := fdd_d (by decide +kernel)
set_option maxRecDepth 100000 in
theorem xd_73a06743 : decode (ia_code 243) 83 = .ok (.putfield 426, 3) := fdd_d (by decide +kernel)
set_option maxRecDepth 100000 in
theorem xf_9d4a51d1 : wk_pf 243 426 184 43 1 = true := by decide +kernel
set_option maxRecDepth 100000 in
theorem xg_03c1839c : sv_g sg 184 43 = (2147483648, 2147483649) := by decide +kernel
set_option maxRecDepth 100000 in
theorem xd_2b94d5a2 : decode (ia_code 243) 86 = .ok (.aload_n 0, 1) := fdd_d (by decide +kernel)
set_option maxRecDepth 100000 in
theorem xg_efb20a0a : sv_g sg 184 4 = (2147483648, 2147484588) := by decide +kernel
set_option maxRecDepth 100000 in
theorem xg_9d09a2b6 : sv_g sg 184 18 = sv_top := by decide +kernel
set_option maxRecDepth 100000 in
theorem xs_129_f2ad130c {w : cm_W} (hG : sv_w sg w) : ∃ w' : cm_W, cm_C 2 129 [.inr (.inr (some 184))] w (none, w') ∧ sv_w sg w' ∧ (∀ k i, ¬ ((k = 184 ∧ i = 4) ∨ (k = 184 ∧ 11 ≤ i ∧ i ≤ 14) ∨ (k = 184 ∧ i = 17)) → w'.1 k i = w.1 k i ∧ w'.2 k i = w.2 k i) ∧ ((True)) := by
  obtain ⟨r, w', hC, hG', hF, q, hq, hr, hp, hs⟩ := wk_use (d := 2) sm_129_f2ad130c_ok (by decide) (as := [.inr (.inr (some 184))]) (w := w) ⟨rfl, trivial⟩ (fun f hf => by
    rcases List.mem_cons.mp hf with rfl | hf
    · exact ⟨(by have h9 := hG 184 4; rw [xg_efb20a0a] at h9; exact h9), .inr (Nat.le_refl _), .inl rfl⟩
    rcases List.mem_cons.mp hf with rfl | hf
    · exact ⟨(by have h9 := hG 184 11; rw [xg_d6f571af] at h9; exact h9), .inl rfl, .inl rfl⟩
    rcases List.mem_cons.mp hf with rfl | hf
    · exact ⟨(sv_in_top _), .inl rfl, .inl rfl⟩
    cases hf) hG
  have hfr : ∀ k i, ¬ ((k = 184 ∧ i = 4) ∨ (k = 184 ∧ 11 ≤ i ∧ i ≤ 14) ∨ (k = 184 ∧ i = 17)) → w'.1 k i = w.1 k i ∧ w'.2 k i = w.2 k i := fun k i hki => hF k i (fun ⟨r, z, z1, z2, z3⟩ => by
    simp only [sm_129_f2ad130c, List.mem_cons, List.not_mem_nil, or_false] at z
    rcases z with rfl | rfl | rfl
    all_goals (simp only at z1 z2 z3; omega))
  simp only [sm_129_f2ad130c, List.mem_cons, List.not_mem_nil, or_false] at hq
  rcases hq with rfl | rfl | rfl | rfl | rfl | rfl
  · obtain rfl : r = none := by
      match r, hr with
      | none, _ => rfl
    exact ⟨w', hC, hG', hfr, (trivial)⟩
  · obtain rfl : r = none := by
      match r, hr with
      | none, _ => rfl
    exact ⟨w', hC, hG', hfr, (trivial)⟩
  · obtain rfl : r = none := by
      match r, hr with
      | none, _ => rfl
    exact ⟨w', hC, hG', hfr, (trivial)⟩
  · obtain rfl : r = none := by
      match r, hr with
      | none, _ => rfl
    exact ⟨w', hC, hG', hfr, (trivial)⟩
  · obtain rfl : r = none := by
      match r, hr with
      | none, _ => rfl
    exact ⟨w', hC, hG', hfr, (trivial)⟩
  · obtain rfl : r = none := by
      match r, hr with
      | none, _ => rfl
    exact ⟨w', hC, hG', hfr, (trivial)⟩
set_option maxRecDepth 100000 in
theorem xl_2811697b : ia_pl (ia_cls 243) 179 = some (1, 129, 0, 0, 1646) := by decide +kernel
set_option maxRecDepth 100000 in
theorem xn_00af7311 : ia_na 129 = 1 := by decide +kernel
set_option maxRecDepth 100000 in
theorem xc_b2cf5bb1 : ia_mc 129 = 0 ∧ ia_ms 129 = 0 := ⟨by decide +kernel, by decide +kernel⟩
set_option maxRecDepth 100000 in
theorem xv_e7aa8f3d : cm_rcv 129 [.inr (.inr (some 184))] = true := by decide +kernel
set_option maxRecDepth 100000 in
theorem xd_338fde30 : decode (ia_code 243) 87 = .ok (.invokevirtual 179, 3) := fdd_d (by decide +kernel)
set_option maxRecDepth 100000 in
theorem xd_0c5c9777 : decode (ia_code 243) 90 = .ok (.iconst 1, 1) := fdd_d (by decide +kernel)
set_option maxRecDepth 100000 in
theorem xd_73930c9e : decode (ia_code 243) 91 = .ok (.ireturn, 1) := fdd_d (by decide +kernel)
set_option maxRecDepth 100000 in
theorem xr_b1910b0e : ia_ret 243 = some .boolean := by decide +kernel
set_option maxRecDepth 100000 in
theorem xd_ef675851 : decode (ia_code 243) 63 = .ok (.bipush 21, 2) := fdd_d (by decide +kernel)
set_option maxRecDepth 100000 in
theorem xd_2812c8e0 : decode (ia_code 243) 65 = .ok (.goto 5, 3) := fdd_d (by decide +kernel)
set_option maxRecDepth 100000 in
theorem xd_ea8ed153 : decode (ia_code 243) 35 = .ok (.bipush 21, 2) := fdd_d (by decide +kernel)
set_option maxRecDepth 100000 in
theorem xd_6fff3949 : decode (ia_code 243) 37 = .ok (.goto 5, 3) := fdd_d (by decide +kernel)
set_option maxRecDepth 100000 in
theorem xd_952a5fd2 : decode (ia_code 243) 14 = .ok (.aload_n 0, 1) := fdd_d (by decide +kernel)
set_option maxRecDepth 100000 in
theorem xd_9dd5aee1 : decode (ia_code 243) 15 = .ok (.ldc2_w 118, 3) := fdd_d (by decide +kernel)
set_option maxRecDepth 100000 in
theorem xl_d8ce3c22 : ia_pl (ia_cls 243) 118 = some (9, 28530, 0, 0, 1481) := by decide +kernel
set_option maxRecDepth 100000 in
theorem xd_9468a880 : decode (ia_code 243) 18 = .ok (.invokevirtual 210, 3) := fdd_d (by decide +kernel)
set_option maxRecDepth 100000 in
theorem xd_eda0ac37 : decode (ia_code 243) 21 = .ok (.ifCond .eq 71, 3) := fdd_d (by decide +kernel)
set_option maxRecDepth 100000 in
theorem xd_aaed1116 : decode (ia_code 243) 92 = .ok (.aload_n 0, 1) := fdd_d (by decide +kernel)
set_option maxRecDepth 100000 in
theorem xd_4bd22948 : decode (ia_code 243) 93 = .ok (.bipush 22, 2) := fdd_d (by decide +kernel)
set_option maxRecDepth 100000 in
theorem xd_61e35698 : decode (ia_code 243) 95 = .ok (.invokevirtual 432, 3) := fdd_d (by decide +kernel)
set_option maxRecDepth 100000 in
theorem xd_47c281d9 : decode (ia_code 243) 98 = .ok (.aload_n 0, 1) := fdd_d (by decide +kernel)
set_option maxRecDepth 100000 in
theorem xd_3704204a : decode (ia_code 243) 99 = .ok (.bipush 41, 2) := fdd_d (by decide +kernel)
set_option maxRecDepth 100000 in
theorem xg_87354238 : sv_g sg 184 14 = sv_top := by decide +kernel
set_option maxRecDepth 100000 in
theorem xs_118_d21a6527 {a1 : Int32} {w : cm_W} (hG : sv_w sg w) : ∃ x : Int32, cm_C 1 118 [.inr (.inr (some 184)), .inl a1] w (some (.inl x), w) ∧ ((x.toInt = 1) ∨ (x.toInt = 0)) := by
  obtain ⟨r, w', hC, hG', hF, q, hq, hr, hp, hs⟩ := wk_use (d := 1) sm_118_d21a6527_ok (by decide) (as := [.inr (.inr (some 184)), .inl a1]) (w := w) ⟨rfl, sv_in_top _, trivial⟩ (fun f hf => by
    rcases List.mem_cons.mp hf with rfl | hf
    · exact ⟨(by have h9 := hG 184 11; rw [xg_d6f571af] at h9; exact h9), .inl rfl, .inl rfl⟩
    rcases List.mem_cons.mp hf with rfl | hf
    · exact ⟨(sv_in_top _), .inl rfl, .inl rfl⟩
    cases hf) hG
  have ew : w' = w := Prod.ext (funext fun k => funext fun i => (hF k i (fun ⟨r, z, _⟩ => by cases z)).1) (funext fun k => funext fun i => (hF k i (fun ⟨r, z, _⟩ => by cases z)).2)
  subst ew
  simp only [sm_118_d21a6527, List.mem_cons, List.not_mem_nil, or_false] at hq
  rcases hq with rfl | rfl
  · obtain ⟨x, rfl, hx⟩ := wk_int hr
    have hx := hb_in hx
    exact ⟨x, hC, Or.inl (by omega)⟩
  · obtain ⟨x, rfl, hx⟩ := wk_int hr
    have hx := hb_in hx
    exact ⟨x, hC, Or.inr ((by omega))⟩
set_option maxRecDepth 100000 in
theorem xl_73055a27 : ia_pl (ia_cls 243) 173 = some (1, 118, 0, 0, 1706) := by decide +kernel
set_option maxRecDepth 100000 in
theorem xn_225279b5 : ia_na 118 = 2 := by decide +kernel
set_option maxRecDepth 100000 in
theorem xc_ca564353 : ia_mc 118 = 0 ∧ ia_ms 118 = 0 := ⟨by decide +kernel, by decide +kernel⟩
set_option maxRecDepth 100000 in
theorem xv_bcdeec94 : cm_rcv 118 [.inr (.inr (some 184))] = true := by decide +kernel
set_option maxRecDepth 100000 in
theorem xd_9359fcef : decode (ia_code 243) 101 = .ok (.invokevirtual 173, 3) := fdd_d (by decide +kernel)
set_option maxRecDepth 100000 in
theorem xd_b7aeddaf : decode (ia_code 243) 104 = .ok (.ifCond .eq 10, 3) := fdd_d (by decide +kernel)
set_option maxRecDepth 100000 in
theorem xd_897a7b20 : decode (ia_code 243) 114 = .ok (.aload_n 0, 1) := fdd_d (by decide +kernel)
set_option maxRecDepth 100000 in
theorem xd_7b29b3c0 : decode (ia_code 243) 115 = .ok (.iconst 1, 1) := fdd_d (by decide +kernel)
set_option maxRecDepth 100000 in
theorem xs_94_689db261 {a1 : Int32} {w : cm_W} (hG : sv_w sg w) : ∃ x : Int32, ∃ w' : cm_W, cm_C 1 94 [.inr (.inr (some 184)), .inl a1] w (some (.inl x), w') ∧ sv_w sg w' ∧ (∀ k i, ¬ ((k = 184 ∧ 15 ≤ i ∧ i ≤ 16)) → w'.1 k i = w.1 k i ∧ w'.2 k i = w.2 k i) ∧ ((x.toInt = 0)) := by
  obtain ⟨r, w', hC, hG', hF, q, hq, hr, hp, hs⟩ := wk_use (d := 1) sm_94_689db261_ok (by decide) (as := [.inr (.inr (some 184)), .inl a1]) (w := w) ⟨rfl, sv_in_top _, trivial⟩ (fun f hf => by
    rcases List.mem_cons.mp hf with rfl | hf
    · exact ⟨(by have h9 := hG 184 11; rw [xg_d6f571af] at h9; exact h9), .inl rfl, .inl rfl⟩
    cases hf) hG
  have hfr : ∀ k i, ¬ ((k = 184 ∧ 15 ≤ i ∧ i ≤ 16)) → w'.1 k i = w.1 k i ∧ w'.2 k i = w.2 k i := fun k i hki => hF k i (fun ⟨r, z, z1, z2, z3⟩ => by
    simp only [sm_94_689db261, List.mem_cons, List.not_mem_nil, or_false] at z
    rcases z with rfl
    all_goals (simp only at z1 z2 z3; omega))
  simp only [sm_94_689db261, List.mem_cons, List.not_mem_nil, or_false] at hq
  rcases hq with rfl
  · obtain ⟨x, rfl, hx⟩ := wk_int hr
    have hx := hb_in hx
    exact ⟨x, w', hC, hG', hfr, (by omega)⟩
set_option maxRecDepth 100000 in
theorem xl_05a5d0ae : ia_pl (ia_cls 243) 176 = some (1, 94, 0, 0, 1675) := by decide +kernel
set_option maxRecDepth 100000 in
theorem xn_f63023b8 : ia_na 94 = 2 := by decide +kernel
set_option maxRecDepth 100000 in
theorem xc_1907b494 : ia_mc 94 = 0 ∧ ia_ms 94 = 0 := ⟨by decide +kernel, by decide +kernel⟩
set_option maxRecDepth 100000 in
theorem xv_a1095a1b : cm_rcv 94 [.inr (.inr (some 184))] = true := by decide +kernel
set_option maxRecDepth 100000 in
theorem xd_82d4ec02 : decode (ia_code 243) 116 = .ok (.invokevirtual 176, 3) := fdd_d (by decide +kernel)
set_option maxRecDepth 100000 in
theorem xd_a956a3cc : decode (ia_code 243) 119 = .ok (.ireturn, 1) := fdd_d (by decide +kernel)
set_option maxRecDepth 100000 in
theorem xd_7eba273a : decode (ia_code 243) 107 = .ok (.aload_n 0, 1) := fdd_d (by decide +kernel)
set_option maxRecDepth 100000 in
theorem xd_6cf7b8d7 : decode (ia_code 243) 108 = .ok (.getfield 410, 3) := fdd_d (by decide +kernel)
set_option maxRecDepth 100000 in
theorem xd_ce3d8998 : decode (ia_code 243) 111 = .ok (.ifCond .ne 9, 3) := fdd_d (by decide +kernel)
set_option maxRecDepth 100000 in
theorem xd_d138739b : decode (ia_code 243) 120 = .ok (.aload_n 0, 1) := fdd_d (by decide +kernel)
set_option maxRecDepth 100000 in
theorem xd_5591be06 : decode (ia_code 243) 121 = .ok (.dup, 1) := fdd_d (by decide +kernel)
set_option maxRecDepth 100000 in
theorem xd_f18ce886 : decode (ia_code 243) 122 = .ok (.getfield 410, 3) := fdd_d (by decide +kernel)
set_option maxRecDepth 100000 in
theorem xd_0dcc8afd : decode (ia_code 243) 125 = .ok (.iconst 1, 1) := fdd_d (by decide +kernel)
set_option maxRecDepth 100000 in
theorem xd_025af0d8 : decode (ia_code 243) 126 = .ok (.isub, 1) := fdd_d (by decide +kernel)
set_option maxRecDepth 100000 in
theorem xd_63b9816b : decode (ia_code 243) 127 = .ok (.putfield 410, 3) := fdd_d (by decide +kernel)
set_option maxRecDepth 100000 in
theorem xd_501d16bc : decode (ia_code 243) 130 = .ok (.aload_n 0, 1) := fdd_d (by decide +kernel)
set_option maxRecDepth 100000 in
theorem xd_bac308e7 : decode (ia_code 243) 131 = .ok (.dup, 1) := fdd_d (by decide +kernel)
set_option maxRecDepth 100000 in
theorem xd_2d202fd7 : decode (ia_code 243) 132 = .ok (.getfield 417, 3) := fdd_d (by decide +kernel)
set_option maxRecDepth 100000 in
theorem xf_a1930c0e : wk_gf 243 417 184 42 0 = true := by decide +kernel
set_option maxRecDepth 100000 in
theorem xd_96bf6029 : decode (ia_code 243) 135 = .ok (.iconst 1, 1) := fdd_d (by decide +kernel)
set_option maxRecDepth 100000 in
theorem xd_d5b87080 : decode (ia_code 243) 136 = .ok (.isub, 1) := fdd_d (by decide +kernel)
set_option maxRecDepth 100000 in
theorem xd_bf15463a : decode (ia_code 243) 137 = .ok (.putfield 417, 3) := fdd_d (by decide +kernel)
set_option maxRecDepth 100000 in
theorem xf_d3022c50 : wk_pf 243 417 184 42 0 = true := by decide +kernel
set_option maxRecDepth 100000 in
theorem xd_610521cb : decode (ia_code 243) 140 = .ok (.aload_n 0, 1) := fdd_d (by decide +kernel)
set_option maxRecDepth 100000 in
theorem xd_a863fe64 : decode (ia_code 243) 141 = .ok (.invokevirtual 179, 3) := fdd_d (by decide +kernel)
set_option maxRecDepth 100000 in
theorem xd_f72e9c47 : decode (ia_code 243) 144 = .ok (.iconst 1, 1) := fdd_d (by decide +kernel)
set_option maxRecDepth 100000 in
theorem xd_d5d459c1 : decode (ia_code 243) 145 = .ok (.ireturn, 1) := fdd_d (by decide +kernel)
set_option maxRecDepth 100000 in
theorem xm_d11360b4 : ia_maxL 243 = 1 := by decide +kernel
set_option maxRecDepth 100000 in
theorem xd_3f20afd1 : decode (ia_code 134) 38 = .ok (.aload_n 0, 1) := fdd_d (by decide +kernel)
set_option maxRecDepth 100000 in
theorem xd_810317bd : decode (ia_code 134) 39 = .ok (.getfield 423, 3) := fdd_d (by decide +kernel)
set_option maxRecDepth 100000 in
theorem xf_4633a7bb : wk_gf 134 423 184 40 0 = true := by decide +kernel
set_option maxRecDepth 100000 in
theorem xd_e39b8983 : decode (ia_code 134) 42 = .ok (.bipush 20, 2) := fdd_d (by decide +kernel)
set_option maxRecDepth 100000 in
theorem xd_41784522 : decode (ia_code 134) 44 = .ok (.if_icmp .eq 12, 3) := fdd_d (by decide +kernel)
set_option maxRecDepth 100000 in
theorem xd_626eccdd : decode (ia_code 134) 56 = .ok (.aload_n 0, 1) := fdd_d (by decide +kernel)
set_option maxRecDepth 100000 in
theorem xd_a948fe75 : decode (ia_code 134) 57 = .ok (.iconst 4, 1) := fdd_d (by decide +kernel)
set_option maxRecDepth 100000 in
theorem xl_f124abec : ia_pl (ia_cls 134) 176 = some (1, 94, 0, 0, 1675) := by decide +kernel
set_option maxRecDepth 100000 in
theorem xd_888bcf38 : decode (ia_code 134) 58 = .ok (.invokevirtual 176, 3) := fdd_d (by decide +kernel)
set_option maxRecDepth 100000 in
theorem xd_0a0ebe93 : decode (ia_code 134) 61 = .ok (.ireturn, 1) := fdd_d (by decide +kernel)
set_option maxRecDepth 100000 in
theorem xr_d37bfb88 : ia_ret 134 = some .boolean := by decide +kernel
set_option maxRecDepth 100000 in
theorem xd_7838432e : decode (ia_code 134) 47 = .ok (.aload_n 0, 1) := fdd_d (by decide +kernel)
set_option maxRecDepth 100000 in
theorem xd_c7df23c2 : decode (ia_code 134) 48 = .ok (.getfield 417, 3) := fdd_d (by decide +kernel)
set_option maxRecDepth 100000 in
theorem xf_db488d2b : wk_gf 134 417 184 42 0 = true := by decide +kernel
set_option maxRecDepth 100000 in
theorem xd_fe1716ce : decode (ia_code 134) 51 = .ok (.bipush 8, 2) := fdd_d (by decide +kernel)
set_option maxRecDepth 100000 in
theorem xd_39ca0028 : decode (ia_code 134) 53 = .ok (.if_icmp .le 9, 3) := fdd_d (by decide +kernel)
set_option maxRecDepth 100000 in
theorem xd_3a2cc466 : decode (ia_code 134) 62 = .ok (.aload_n 0, 1) := fdd_d (by decide +kernel)
set_option maxRecDepth 100000 in
theorem xd_74bb42e5 : decode (ia_code 134) 63 = .ok (.dup, 1) := fdd_d (by decide +kernel)
set_option maxRecDepth 100000 in
theorem xd_166e7a4c : decode (ia_code 134) 64 = .ok (.getfield 423, 3) := fdd_d (by decide +kernel)
set_option maxRecDepth 100000 in
theorem xd_174d4838 : decode (ia_code 134) 67 = .ok (.iconst 1, 1) := fdd_d (by decide +kernel)
set_option maxRecDepth 100000 in
theorem xd_900ab995 : decode (ia_code 134) 68 = .ok (.iadd, 1) := fdd_d (by decide +kernel)
set_option maxRecDepth 100000 in
theorem xd_d1723e1d : decode (ia_code 134) 69 = .ok (.putfield 423, 3) := fdd_d (by decide +kernel)
set_option maxRecDepth 100000 in
theorem xf_34a287e5 : wk_pf 134 423 184 40 0 = true := by decide +kernel
set_option maxRecDepth 100000 in
theorem xg_ff894e00 : sv_g sg 184 40 = sv_top := by decide +kernel
set_option maxRecDepth 100000 in
theorem xd_bb09a141 : decode (ia_code 134) 72 = .ok (.aload_n 0, 1) := fdd_d (by decide +kernel)
set_option maxRecDepth 100000 in
theorem xl_b037c8bc : ia_pl (ia_cls 134) 179 = some (1, 129, 0, 0, 1646) := by decide +kernel
set_option maxRecDepth 100000 in
theorem xd_56092a07 : decode (ia_code 134) 73 = .ok (.invokevirtual 179, 3) := fdd_d (by decide +kernel)
set_option maxRecDepth 100000 in
theorem xg_96376df5 : sv_g sg 186 2 = (2147483648, 2147483654) := by decide +kernel
set_option maxRecDepth 100000 in
theorem xd_dc36fa0f : decode (ia_code 134) 76 = .ok (.iload_n 1, 1) := fdd_d (by decide +kernel)
set_option maxRecDepth 100000 in
theorem xd_8ac39bcf : decode (ia_code 134) 77 = .ok (.ifCond .ne 7, 3) := fdd_d (by decide +kernel)
set_option maxRecDepth 100000 in
theorem xd_b5d6d8f2 : decode (ia_code 134) 84 = .ok (.aload_n 0, 1) := fdd_d (by decide +kernel)
set_option maxRecDepth 100000 in
theorem xd_524c8c8d : decode (ia_code 134) 85 = .ok (.getfield 80, 3) := fdd_d (by decide +kernel)
set_option maxRecDepth 100000 in
theorem xf_1029fb0d : wk_gf 134 80 184 38 (199 + 3) = true := by decide +kernel
set_option maxRecDepth 100000 in
theorem xd_b5333a47 : decode (ia_code 134) 88 = .ok (.aload_n 0, 1) := fdd_d (by decide +kernel)
set_option maxRecDepth 100000 in
theorem xd_3121e48a : decode (ia_code 134) 89 = .ok (.getfield 410, 3) := fdd_d (by decide +kernel)
set_option maxRecDepth 100000 in
theorem xf_10ed4a63 : wk_gf 134 410 184 41 0 = true := by decide +kernel
set_option maxRecDepth 100000 in
theorem xd_be5a3572 : decode (ia_code 134) 92 = .ok (.iload_n 1, 1) := fdd_d (by decide +kernel)
set_option maxRecDepth 100000 in
theorem xd_9227b506 : decode (ia_code 134) 93 = .ok (.ifCond .eq 8, 3) := fdd_d (by decide +kernel)
set_option maxRecDepth 100000 in
theorem xd_6692718c : decode (ia_code 134) 101 = .ok (.bipush 23, 2) := fdd_d (by decide +kernel)
set_option maxRecDepth 100000 in
theorem xd_d0bd0601 : decode (ia_code 134) 103 = .ok (.iastore, 1) := fdd_d (by decide +kernel)
set_option maxRecDepth 100000 in
theorem xd_ba91c1f1 : decode (ia_code 134) 104 = .ok (.aload_n 0, 1) := fdd_d (by decide +kernel)
set_option maxRecDepth 100000 in
theorem xd_6833fd8c : decode (ia_code 134) 105 = .ok (.dup, 1) := fdd_d (by decide +kernel)
set_option maxRecDepth 100000 in
theorem xd_cd35716d : decode (ia_code 134) 106 = .ok (.getfield 410, 3) := fdd_d (by decide +kernel)
set_option maxRecDepth 100000 in
theorem xd_766c32ad : decode (ia_code 134) 109 = .ok (.iconst 1, 1) := fdd_d (by decide +kernel)
set_option maxRecDepth 100000 in
theorem xd_6ab77a07 : decode (ia_code 134) 110 = .ok (.iadd, 1) := fdd_d (by decide +kernel)
set_option maxRecDepth 100000 in
theorem xd_24c648ae : decode (ia_code 134) 111 = .ok (.putfield 410, 3) := fdd_d (by decide +kernel)
set_option maxRecDepth 100000 in
theorem xf_627c6a3d : wk_pf 134 410 184 41 0 = true := by decide +kernel
set_option maxRecDepth 100000 in
theorem xd_3bb4a4d6 : decode (ia_code 134) 114 = .ok (.aload_n 0, 1) := fdd_d (by decide +kernel)
set_option maxRecDepth 100000 in
theorem xd_87614b6d : decode (ia_code 134) 115 = .ok (.dup, 1) := fdd_d (by decide +kernel)
set_option maxRecDepth 100000 in
theorem xd_1199b63c : decode (ia_code 134) 116 = .ok (.getfield 417, 3) := fdd_d (by decide +kernel)
set_option maxRecDepth 100000 in
theorem xd_ed1fd879 : decode (ia_code 134) 119 = .ok (.iconst 1, 1) := fdd_d (by decide +kernel)
set_option maxRecDepth 100000 in
theorem xd_c9e1fcae : decode (ia_code 134) 120 = .ok (.iadd, 1) := fdd_d (by decide +kernel)
set_option maxRecDepth 100000 in
theorem xd_2572b97d : decode (ia_code 134) 121 = .ok (.putfield 417, 3) := fdd_d (by decide +kernel)
set_option maxRecDepth 100000 in
theorem xf_a9d9ad75 : wk_pf 134 417 184 42 0 = true := by decide +kernel
set_option maxRecDepth 100000 in
theorem xd_69303084 : decode (ia_code 134) 124 = .ok (.iconst 1, 1) := fdd_d (by decide +kernel)
set_option maxRecDepth 100000 in
theorem xd_afed39c6 : decode (ia_code 134) 125 = .ok (.ireturn, 1) := fdd_d (by decide +kernel)
set_option maxRecDepth 100000 in
theorem xd_d9e9efd6 : decode (ia_code 134) 96 = .ok (.bipush 20, 2) := fdd_d (by decide +kernel)
set_option maxRecDepth 100000 in
theorem xd_df496744 : decode (ia_code 134) 98 = .ok (.goto 5, 3) := fdd_d (by decide +kernel)
set_option maxRecDepth 100000 in
theorem xd_9549f96c : decode (ia_code 134) 80 = .ok (.iload_n 2, 1) := fdd_d (by decide +kernel)
set_option maxRecDepth 100000 in
theorem xd_5b45533c : decode (ia_code 134) 81 = .ok (.ifCond .eq 45, 3) := fdd_d (by decide +kernel)
set_option maxRecDepth 100000 in
theorem xd_8e3cde17 : decode (ia_code 134) 126 = .ok (.aload_n 0, 1) := fdd_d (by decide +kernel)
set_option maxRecDepth 100000 in
theorem xd_50489dc4 : decode (ia_code 134) 127 = .ok (.iconst 1, 1) := fdd_d (by decide +kernel)
set_option maxRecDepth 100000 in
theorem xd_2cb26948 : decode (ia_code 134) 128 = .ok (.putfield 426, 3) := fdd_d (by decide +kernel)
set_option maxRecDepth 100000 in
theorem xf_e791d0f4 : wk_pf 134 426 184 43 1 = true := by decide +kernel
set_option maxRecDepth 100000 in
theorem xd_64038a23 : decode (ia_code 134) 131 = .ok (.iload_n 3, 1) := fdd_d (by decide +kernel)
set_option maxRecDepth 100000 in
theorem xd_c712fa00 : decode (ia_code 134) 132 = .ok (.iconst 2, 1) := fdd_d (by decide +kernel)
set_option maxRecDepth 100000 in
theorem xd_57308876 : decode (ia_code 134) 133 = .ok (.if_icmp .ge 12, 3) := fdd_d (by decide +kernel)
set_option maxRecDepth 100000 in
theorem xd_55471cc7 : decode (ia_code 134) 145 = .ok (.iload_n 3, 1) := fdd_d (by decide +kernel)
set_option maxRecDepth 100000 in
theorem xd_624a040e : decode (ia_code 134) 146 = .ok (.iconst 4, 1) := fdd_d (by decide +kernel)
set_option maxRecDepth 100000 in
theorem xd_b750c209 : decode (ia_code 134) 147 = .ok (.if_icmp .ge 54, 3) := fdd_d (by decide +kernel)
set_option maxRecDepth 100000 in
theorem xd_14533ce5 : decode (ia_code 134) 201 = .ok (.aload_n 0, 1) := fdd_d (by decide +kernel)
set_option maxRecDepth 100000 in
theorem xd_2cd68d25 : decode (ia_code 134) 202 = .ok (.getfield 150, 3) := fdd_d (by decide +kernel)
set_option maxRecDepth 100000 in
theorem xf_5498bc9d : wk_gf 134 150 184 11 0 = true := by decide +kernel
set_option maxRecDepth 100000 in
theorem xd_b1507de5 : decode (ia_code 134) 205 = .ok (.iconst 3, 1) := fdd_d (by decide +kernel)
set_option maxRecDepth 100000 in
theorem xd_dc6c714e : decode (ia_code 134) 206 = .ok (.if_icmp .ne 21, 3) := fdd_d (by decide +kernel)
set_option maxRecDepth 100000 in
theorem xd_20a28290 : decode (ia_code 134) 227 = .ok (.aload_n 0, 1) := fdd_d (by decide +kernel)
set_option maxRecDepth 100000 in
theorem xd_d4cc2cac : decode (ia_code 134) 228 = .ok (.iconst 1, 1) := fdd_d (by decide +kernel)
set_option maxRecDepth 100000 in
theorem xd_6a3ec3c6 : decode (ia_code 134) 229 = .ok (.invokevirtual 176, 3) := fdd_d (by decide +kernel)
set_option maxRecDepth 100000 in
theorem xd_a7c7e263 : decode (ia_code 134) 232 = .ok (.ireturn, 1) := fdd_d (by decide +kernel)
set_option maxRecDepth 100000 in
theorem xd_14ea7fc3 : decode (ia_code 134) 209 = .ok (.aload_n 0, 1) := fdd_d (by decide +kernel)
set_option maxRecDepth 100000 in
theorem xd_d184afa5 : decode (ia_code 134) 210 = .ok (.getfield 160, 3) := fdd_d (by decide +kernel)
set_option maxRecDepth 100000 in
theorem xf_5837aabb : wk_gf 134 160 184 14 0 = true := by decide +kernel
set_option maxRecDepth 100000 in
theorem xd_e3fd49d7 : decode (ia_code 134) 213 = .ok (.bipush 60, 2) := fdd_d (by decide +kernel)
set_option maxRecDepth 100000 in
theorem xd_e266be00 : decode (ia_code 134) 215 = .ok (.if_icmp .lt 12, 3) := fdd_d (by decide +kernel)
set_option maxRecDepth 100000 in
theorem xd_0ebcf030 : decode (ia_code 134) 218 = .ok (.aload_n 0, 1) := fdd_d (by decide +kernel)
set_option maxRecDepth 100000 in
theorem xd_63b0248e : decode (ia_code 134) 219 = .ok (.getfield 160, 3) := fdd_d (by decide +kernel)
set_option maxRecDepth 100000 in
theorem xd_5a50594b : decode (ia_code 134) 222 = .ok (.bipush 62, 2) := fdd_d (by decide +kernel)
set_option maxRecDepth 100000 in
theorem xd_6974c53b : decode (ia_code 134) 224 = .ok (.if_icmp .le 9, 3) := fdd_d (by decide +kernel)
set_option maxRecDepth 100000 in
theorem xd_a1db4624 : decode (ia_code 134) 233 = .ok (.aload_n 0, 1) := fdd_d (by decide +kernel)
set_option maxRecDepth 100000 in
theorem xd_26080ff9 : decode (ia_code 134) 234 = .ok (.getfield 160, 3) := fdd_d (by decide +kernel)
set_option maxRecDepth 100000 in
theorem xd_1b283ff8 : decode (ia_code 134) 237 = .ok (.istore 4, 2) := fdd_d (by decide +kernel)
set_option maxRecDepth 100000 in
theorem xm_48b35298 : ia_maxL 134 = 5 := by decide +kernel
set_option maxRecDepth 100000 in
theorem xd_4cf4d6eb : decode (ia_code 134) 239 = .ok (.aload_n 0, 1) := fdd_d (by decide +kernel)
set_option maxRecDepth 100000 in
theorem xd_d8f9ed71 : decode (ia_code 134) 240 = .ok (.invokevirtual 179, 3) := fdd_d (by decide +kernel)
set_option maxRecDepth 100000 in
theorem xd_90c37153 : decode (ia_code 134) 243 = .ok (.aload_n 0, 1) := fdd_d (by decide +kernel)
set_option maxRecDepth 100000 in
theorem xd_72493bd1 : decode (ia_code 134) 244 = .ok (.getfield 150, 3) := fdd_d (by decide +kernel)
set_option maxRecDepth 100000 in
theorem xd_a23c3c46 : decode (ia_code 134) 247 = .ok (.iconst 2, 1) := fdd_d (by decide +kernel)
set_option maxRecDepth 100000 in
theorem xd_43d5d54c : decode (ia_code 134) 248 = .ok (.if_icmp .eq 9, 3) := fdd_d (by decide +kernel)
set_option maxRecDepth 100000 in
theorem xd_11bab5e7 : decode (ia_code 134) 257 = .ok (.aload_n 0, 1) := fdd_d (by decide +kernel)
set_option maxRecDepth 100000 in
theorem xd_7a19c7d2 : decode (ia_code 134) 258 = .ok (.iload_n 3, 1) := fdd_d (by decide +kernel)
set_option maxRecDepth 100000 in
theorem xd_caa98dd3 : decode (ia_code 134) 259 = .ok (.iload 4, 2) := fdd_d (by decide +kernel)
set_option maxRecDepth 100000 in
theorem xd_a46e6eb5 : decode (ia_code 134) 261 = .ok (.aload_n 0, 1) := fdd_d (by decide +kernel)
set_option maxRecDepth 100000 in
theorem xd_161ba24c : decode (ia_code 134) 262 = .ok (.getfield 160, 3) := fdd_d (by decide +kernel)
set_option maxRecDepth 100000 in
theorem xl_c3f3b8fa : ia_pl (ia_cls 134) 413 = some (1, 247, 0, 0, 2036) := by decide +kernel
set_option maxRecDepth 100000 in
theorem xd_1b957fea : decode (ia_code 134) 265 = .ok (.invokevirtual 413, 3) := fdd_d (by decide +kernel)
set_option maxRecDepth 100000 in
theorem xd_3fa4c747 : decode (ia_code 134) 268 = .ok (.aload_n 0, 1) := fdd_d (by decide +kernel)
set_option maxRecDepth 100000 in
theorem xd_99e44e3d : decode (ia_code 134) 269 = .ok (.invokevirtual 179, 3) := fdd_d (by decide +kernel)
set_option maxRecDepth 100000 in
theorem xd_d8f0886b : decode (ia_code 134) 272 = .ok (.iconst 1, 1) := fdd_d (by decide +kernel)
set_option maxRecDepth 100000 in
theorem xd_64bcf2fd : decode (ia_code 134) 273 = .ok (.ireturn, 1) := fdd_d (by decide +kernel)
set_option maxRecDepth 100000 in
theorem xd_fc70c79d : decode (ia_code 134) 251 = .ok (.aload_n 0, 1) := fdd_d (by decide +kernel)
set_option maxRecDepth 100000 in
theorem xd_35665b82 : decode (ia_code 134) 252 = .ok (.iconst 1, 1) := fdd_d (by decide +kernel)
set_option maxRecDepth 100000 in
theorem xd_b85b4679 : decode (ia_code 134) 253 = .ok (.invokevirtual 176, 3) := fdd_d (by decide +kernel)
set_option maxRecDepth 100000 in
theorem xd_c7cfbc58 : decode (ia_code 134) 256 = .ok (.ireturn, 1) := fdd_d (by decide +kernel)
set_option maxRecDepth 100000 in
theorem xd_52ee9b1a : decode (ia_code 134) 150 = .ok (.aload_n 0, 1) := fdd_d (by decide +kernel)
set_option maxRecDepth 100000 in
theorem xd_d43ed873 : decode (ia_code 134) 151 = .ok (.iload_n 3, 1) := fdd_d (by decide +kernel)
set_option maxRecDepth 100000 in
theorem xd_2ad8887a : decode (ia_code 134) 152 = .ok (.iconst 2, 1) := fdd_d (by decide +kernel)
set_option maxRecDepth 100000 in
theorem xd_e7b5a29e : decode (ia_code 134) 153 = .ok (.if_icmp .ne 7, 3) := fdd_d (by decide +kernel)
set_option maxRecDepth 100000 in
theorem xd_8ce8c176 : decode (ia_code 134) 160 = .ok (.bipush 10, 2) := fdd_d (by decide +kernel)
set_option maxRecDepth 100000 in
theorem xd_e766e1db : decode (ia_code 134) 162 = .ok (.aload_n 0, 1) := fdd_d (by decide +kernel)
set_option maxRecDepth 100000 in
theorem xd_646843cd : decode (ia_code 134) 163 = .ok (.getfield 33, 3) := fdd_d (by decide +kernel)
set_option maxRecDepth 100000 in
theorem xf_f27fbcc3 : wk_gf 134 33 184 6 (186 + 3) = true := by decide +kernel
set_option maxRecDepth 100000 in
theorem xd_fa99e9f5 : decode (ia_code 134) 166 = .ok (.iload_n 3, 1) := fdd_d (by decide +kernel)
set_option maxRecDepth 100000 in
theorem xd_17b44687 : decode (ia_code 134) 167 = .ok (.iconst 2, 1) := fdd_d (by decide +kernel)
set_option maxRecDepth 100000 in
theorem xd_947d5ef0 : decode (ia_code 134) 168 = .ok (.if_icmp .ne 7, 3) := fdd_d (by decide +kernel)
set_option maxRecDepth 100000 in
theorem xd_a29765d3 : decode (ia_code 134) 175 = .ok (.iconst 2, 1) := fdd_d (by decide +kernel)
set_option maxRecDepth 100000 in
theorem xd_2a4c6dd9 : decode (ia_code 134) 176 = .ok (.iaload, 1) := fdd_d (by decide +kernel)
set_option maxRecDepth 100000 in
theorem xs_274_22cf966a_c6b7 {a1 : Int32} {a2 : Int32} {w : cm_W} (h1 : 10 ≤ a1.toInt ∧ a1.toInt ≤ 10) (h2 : 0 ≤ a2.toInt ∧ a2.toInt ≤ 6) (hG : sv_w sg w) : ∃ x : Int32, ∃ w' : cm_W, cm_C 2 274 [.inr (.inr (some 184)), .inl a1, .inl a2] w (some (.inl x), w') ∧ sv_w sg w' ∧ (∀ k i, ¬ ((k = 184 ∧ 15 ≤ i ∧ i ≤ 16) ∨ (k = 184 ∧ i = 18)) → w'.1 k i = w.1 k i ∧ w'.2 k i = w.2 k i) ∧ ((x.toInt = 0) ∨ (x.toInt = 0 ∧ (w'.1 184 18).toInt = (-1)) ∨ (x.toInt = 1 ∧ 1 ≤ a2.toInt ∧ a2.toInt ≤ 6 ∧ 0 ≤ (w'.1 184 18).toInt ∧ (w'.1 184 18).toInt ≤ 5)) := by
  obtain ⟨r, w', hC, hG', hF, q, hq, hr, hp, hs⟩ := wk_use (d := 2) sm_274_22cf966a_ok (by decide) (as := [.inr (.inr (some 184)), .inl a1, .inl a2]) (w := w) ⟨rfl, hb_mk (lo := 2147483658) (hi := 2147483658) (by have := h1.1; omega) (by have := h1.2; omega), hb_mk (lo := 2147483648) (hi := 2147483654) (by have := h2.1; omega) (by have := h2.2; omega), trivial⟩ (fun f hf => by
    rcases List.mem_cons.mp hf with rfl | hf
    · exact ⟨(by have h9 := hG 184 4; rw [xg_efb20a0a] at h9; exact h9), .inr (Nat.le_refl _), .inl rfl⟩
    rcases List.mem_cons.mp hf with rfl | hf
    · exact ⟨(by have h9 := hG 184 11; rw [xg_d6f571af] at h9; exact h9), .inl rfl, .inl rfl⟩
    rcases List.mem_cons.mp hf with rfl | hf
    · exact ⟨(sv_in_top _), .inl rfl, .inl rfl⟩
    cases hf) hG
  have hfr : ∀ k i, ¬ ((k = 184 ∧ 15 ≤ i ∧ i ≤ 16) ∨ (k = 184 ∧ i = 18)) → w'.1 k i = w.1 k i ∧ w'.2 k i = w.2 k i := fun k i hki => hF k i (fun ⟨r, z, z1, z2, z3⟩ => by
    simp only [sm_274_22cf966a, List.mem_cons, List.not_mem_nil, or_false] at z
    rcases z with rfl | rfl
    all_goals (simp only at z1 z2 z3; omega))
  simp only [sm_274_22cf966a, List.mem_cons, List.not_mem_nil, or_false] at hq
  rcases hq with rfl | rfl | rfl
  · obtain ⟨x, rfl, hx⟩ := wk_int hr
    have hx := hb_in hx
    exact ⟨x, w', hC, hG', hfr, Or.inl (by omega)⟩
  · obtain ⟨x, rfl, hx⟩ := wk_int hr
    have hx := hb_in hx
    have s2 := hs _ (List.mem_cons_of_mem _ (List.mem_cons_of_mem _ List.mem_cons_self))
    have t2 := hb_in (lo := 2147483647) (hi := 2147483647) (x := w'.1 184 18) s2.1
    exact ⟨x, w', hC, hG', hfr, Or.inr (Or.inl ⟨by omega, by omega⟩)⟩
  · obtain ⟨x, rfl, hx⟩ := wk_int hr
    have hx := hb_in hx
    have ra2 := hb_in (lo := 2147483649) (hi := 2147483654) (x := a2) hp.2.2.1
    have s2 := hs _ (List.mem_cons_of_mem _ (List.mem_cons_of_mem _ List.mem_cons_self))
    have t2 := hb_in (lo := 2147483648) (hi := 2147483653) (x := w'.1 184 18) s2.1
    exact ⟨x, w', hC, hG', hfr, Or.inr (Or.inr (⟨by omega, by omega, by omega, by omega, by omega⟩))⟩
set_option maxRecDepth 100000 in
theorem xl_fd79e57f : ia_pl (ia_cls 134) 201 = some (1, 274, 0, 0, 1710) := by decide +kernel
set_option maxRecDepth 100000 in
theorem xn_77145da2 : ia_na 274 = 3 := by decide +kernel
set_option maxRecDepth 100000 in
theorem xc_6d225164 : ia_mc 274 = 0 ∧ ia_ms 274 = 0 := ⟨by decide +kernel, by decide +kernel⟩
set_option maxRecDepth 100000 in
theorem xv_5b2ff62c : cm_rcv 274 [.inr (.inr (some 184))] = true := by decide +kernel
set_option maxRecDepth 100000 in
theorem xd_7edbaf08 : decode (ia_code 134) 177 = .ok (.invokevirtual 201, 3) := fdd_d (by decide +kernel)
set_option maxRecDepth 100000 in
theorem xd_8beb3672 : decode (ia_code 134) 180 = .ok (.ifCond .ne 5, 3) := fdd_d (by decide +kernel)
set_option maxRecDepth 100000 in
theorem xd_f3ef179b : decode (ia_code 134) 185 = .ok (.aload_n 0, 1) := fdd_d (by decide +kernel)
set_option maxRecDepth 100000 in
theorem xd_98a9871b : decode (ia_code 134) 186 = .ok (.iload_n 3, 1) := fdd_d (by decide +kernel)
set_option maxRecDepth 100000 in
theorem xd_800724bb : decode (ia_code 134) 187 = .ok (.iconst 0, 1) := fdd_d (by decide +kernel)
set_option maxRecDepth 100000 in
theorem xd_68791ffa : decode (ia_code 134) 188 = .ok (.aload_n 0, 1) := fdd_d (by decide +kernel)
set_option maxRecDepth 100000 in
theorem xd_782a7ab2 : decode (ia_code 134) 189 = .ok (.getfield 186, 3) := fdd_d (by decide +kernel)
set_option maxRecDepth 100000 in
theorem xf_fc12efb4 : wk_gf 134 186 184 18 0 = true := by decide +kernel
set_option maxRecDepth 100000 in
theorem xd_33b47209 : decode (ia_code 134) 192 = .ok (.invokevirtual 413, 3) := fdd_d (by decide +kernel)
set_option maxRecDepth 100000 in
theorem xd_72ca72bc : decode (ia_code 134) 195 = .ok (.aload_n 0, 1) := fdd_d (by decide +kernel)
set_option maxRecDepth 100000 in
theorem xd_c6fa0556 : decode (ia_code 134) 196 = .ok (.invokevirtual 179, 3) := fdd_d (by decide +kernel)
set_option maxRecDepth 100000 in
theorem xd_eda69b5f : decode (ia_code 134) 199 = .ok (.iconst 1, 1) := fdd_d (by decide +kernel)
set_option maxRecDepth 100000 in
theorem xd_7a7b4e5e : decode (ia_code 134) 200 = .ok (.ireturn, 1) := fdd_d (by decide +kernel)
set_option maxRecDepth 100000 in
theorem xd_dca6b7bb : decode (ia_code 134) 183 = .ok (.iconst 0, 1) := fdd_d (by decide +kernel)
set_option maxRecDepth 100000 in
theorem xd_a72455d8 : decode (ia_code 134) 184 = .ok (.ireturn, 1) := fdd_d (by decide +kernel)
set_option maxRecDepth 100000 in
theorem xd_84f6a5b3 : decode (ia_code 134) 171 = .ok (.iconst 0, 1) := fdd_d (by decide +kernel)
set_option maxRecDepth 100000 in
theorem xd_d3d533bf : decode (ia_code 134) 172 = .ok (.goto 4, 3) := fdd_d (by decide +kernel)
set_option maxRecDepth 100000 in
theorem xd_0cb9481a : decode (ia_code 134) 156 = .ok (.iconst 0, 1) := fdd_d (by decide +kernel)
set_option maxRecDepth 100000 in
theorem xd_21fbcb6d : decode (ia_code 134) 157 = .ok (.goto 5, 3) := fdd_d (by decide +kernel)
set_option maxRecDepth 100000 in
theorem xs_274_f7bbdafb_c6b7 {a1 : Int32} {a2 : Int32} {w : cm_W} (h1 : 0 ≤ a1.toInt ∧ a1.toInt ≤ 0) (h2 : 0 ≤ a2.toInt ∧ a2.toInt ≤ 6) (hG : sv_w sg w) : ∃ x : Int32, ∃ w' : cm_W, cm_C 2 274 [.inr (.inr (some 184)), .inl a1, .inl a2] w (some (.inl x), w') ∧ sv_w sg w' ∧ (∀ k i, ¬ ((k = 184 ∧ 15 ≤ i ∧ i ≤ 16) ∨ (k = 184 ∧ i = 18)) → w'.1 k i = w.1 k i ∧ w'.2 k i = w.2 k i) ∧ ((x.toInt = 0) ∨ (x.toInt = 0 ∧ (w'.1 184 18).toInt = (-1)) ∨ (x.toInt = 1 ∧ 1 ≤ a2.toInt ∧ a2.toInt ≤ 6 ∧ 0 ≤ (w'.1 184 18).toInt ∧ (w'.1 184 18).toInt ≤ 5)) := by
  obtain ⟨r, w', hC, hG', hF, q, hq, hr, hp, hs⟩ := wk_use (d := 2) sm_274_f7bbdafb_ok (by decide) (as := [.inr (.inr (some 184)), .inl a1, .inl a2]) (w := w) ⟨rfl, hb_mk (lo := 2147483648) (hi := 2147483648) (by have := h1.1; omega) (by have := h1.2; omega), hb_mk (lo := 2147483648) (hi := 2147483654) (by have := h2.1; omega) (by have := h2.2; omega), trivial⟩ (fun f hf => by
    rcases List.mem_cons.mp hf with rfl | hf
    · exact ⟨(by have h9 := hG 184 4; rw [xg_efb20a0a] at h9; exact h9), .inr (Nat.le_refl _), .inl rfl⟩
    rcases List.mem_cons.mp hf with rfl | hf
    · exact ⟨(by have h9 := hG 184 11; rw [xg_d6f571af] at h9; exact h9), .inl rfl, .inl rfl⟩
    rcases List.mem_cons.mp hf with rfl | hf
    · exact ⟨(sv_in_top _), .inl rfl, .inl rfl⟩
    cases hf) hG
  have hfr : ∀ k i, ¬ ((k = 184 ∧ 15 ≤ i ∧ i ≤ 16) ∨ (k = 184 ∧ i = 18)) → w'.1 k i = w.1 k i ∧ w'.2 k i = w.2 k i := fun k i hki => hF k i (fun ⟨r, z, z1, z2, z3⟩ => by
    simp only [sm_274_f7bbdafb, List.mem_cons, List.not_mem_nil, or_false] at z
    rcases z with rfl | rfl
    all_goals (simp only at z1 z2 z3; omega))
  simp only [sm_274_f7bbdafb, List.mem_cons, List.not_mem_nil, or_false] at hq
  rcases hq with rfl | rfl | rfl
  · obtain ⟨x, rfl, hx⟩ := wk_int hr
    have hx := hb_in hx
    exact ⟨x, w', hC, hG', hfr, Or.inl (by omega)⟩
  · obtain ⟨x, rfl, hx⟩ := wk_int hr
    have hx := hb_in hx
    have s2 := hs _ (List.mem_cons_of_mem _ (List.mem_cons_of_mem _ List.mem_cons_self))
    have t2 := hb_in (lo := 2147483647) (hi := 2147483647) (x := w'.1 184 18) s2.1
    exact ⟨x, w', hC, hG', hfr, Or.inr (Or.inl ⟨by omega, by omega⟩)⟩
  · obtain ⟨x, rfl, hx⟩ := wk_int hr
    have hx := hb_in hx
    have ra2 := hb_in (lo := 2147483649) (hi := 2147483654) (x := a2) hp.2.2.1
    have s2 := hs _ (List.mem_cons_of_mem _ (List.mem_cons_of_mem _ List.mem_cons_self))
    have t2 := hb_in (lo := 2147483648) (hi := 2147483653) (x := w'.1 184 18) s2.1
    exact ⟨x, w', hC, hG', hfr, Or.inr (Or.inr (⟨by omega, by omega, by omega, by omega, by omega⟩))⟩
set_option maxRecDepth 100000 in
theorem xd_0f19bb30 : decode (ia_code 134) 136 = .ok (.aload_n 0, 1) := fdd_d (by decide +kernel)
set_option maxRecDepth 100000 in
theorem xd_89c9f859 : decode (ia_code 134) 137 = .ok (.iload_n 3, 1) := fdd_d (by decide +kernel)
set_option maxRecDepth 100000 in
theorem xd_2ac146e0 : decode (ia_code 134) 138 = .ok (.iconst 0, 1) := fdd_d (by decide +kernel)
set_option maxRecDepth 100000 in
theorem xd_3de92220 : decode (ia_code 134) 139 = .ok (.iconst 0, 1) := fdd_d (by decide +kernel)
set_option maxRecDepth 100000 in
theorem xd_4d3f887f : decode (ia_code 134) 140 = .ok (.invokevirtual 413, 3) := fdd_d (by decide +kernel)
set_option maxRecDepth 100000 in
theorem xd_e1237cbe : decode (ia_code 134) 143 = .ok (.iconst 1, 1) := fdd_d (by decide +kernel)
set_option maxRecDepth 100000 in
theorem xd_42c6e0d8 : decode (ia_code 134) 144 = .ok (.ireturn, 1) := fdd_d (by decide +kernel)
set_option maxRecDepth 100000 in
theorem xd_a1fb5497 : decode (ia_code 134) 0 = .ok (.aload_n 0, 1) := fdd_d (by decide +kernel)
set_option maxRecDepth 100000 in
theorem xd_5773a0fa : decode (ia_code 134) 1 = .ok (.ldc2_w 122, 3) := fdd_d (by decide +kernel)
set_option maxRecDepth 100000 in
theorem xl_89aa3103 : ia_pl (ia_cls 134) 122 = some (9, 7237492, 0, 0, 1483) := by decide +kernel
set_option maxRecDepth 100000 in
theorem xl_7862eed5 : ia_pl (ia_cls 134) 210 = some (1, 120, 0, 0, 1664) := by decide +kernel
set_option maxRecDepth 100000 in
theorem xd_0deea7b7 : decode (ia_code 134) 4 = .ok (.invokevirtual 210, 3) := fdd_d (by decide +kernel)
set_option maxRecDepth 100000 in
theorem xd_c2c3eb22 : decode (ia_code 134) 7 = .ok (.istore_n 1, 1) := fdd_d (by decide +kernel)
set_option maxRecDepth 100000 in
theorem xd_a14217b1 : decode (ia_code 134) 8 = .ok (.aload_n 0, 1) := fdd_d (by decide +kernel)
set_option maxRecDepth 100000 in
theorem xd_ece49f92 : decode (ia_code 134) 9 = .ok (.bipush 40, 2) := fdd_d (by decide +kernel)
set_option maxRecDepth 100000 in
theorem xl_eb23fbe0 : ia_pl (ia_cls 134) 173 = some (1, 118, 0, 0, 1706) := by decide +kernel
set_option maxRecDepth 100000 in
theorem xd_4839f43b : decode (ia_code 134) 11 = .ok (.invokevirtual 173, 3) := fdd_d (by decide +kernel)
set_option maxRecDepth 100000 in
theorem xd_00371d67 : decode (ia_code 134) 14 = .ok (.istore_n 2, 1) := fdd_d (by decide +kernel)
set_option maxRecDepth 100000 in
theorem xd_7d8d6bbf : decode (ia_code 134) 15 = .ok (.aload_n 0, 1) := fdd_d (by decide +kernel)
set_option maxRecDepth 100000 in
theorem xs_125_35fa1572 {w : cm_W} (hG : sv_w sg w) : ∃ x : Int32, cm_C 2 125 [.inr (.inr (some 184))] w (some (.inl x), w) ∧ ((x.toInt = (-1)) ∨ (0 ≤ x.toInt ∧ x.toInt ≤ 7)) := by
  obtain ⟨r, w', hC, hG', hF, q, hq, hr, hp, hs⟩ := wk_use (d := 2) sm_125_35fa1572_ok (by decide) (as := [.inr (.inr (some 184))]) (w := w) ⟨rfl, trivial⟩ (fun f hf => by
    cases hf) hG
  have ew : w' = w := Prod.ext (funext fun k => funext fun i => (hF k i (fun ⟨r, z, _⟩ => by cases z)).1) (funext fun k => funext fun i => (hF k i (fun ⟨r, z, _⟩ => by cases z)).2)
  subst ew
  simp only [sm_125_35fa1572, List.mem_cons, List.not_mem_nil, or_false] at hq
  rcases hq with rfl | rfl
  · obtain ⟨x, rfl, hx⟩ := wk_int hr
    have hx := hb_in hx
    exact ⟨x, hC, Or.inl (by omega)⟩
  · obtain ⟨x, rfl, hx⟩ := wk_int hr
    have hx := hb_in hx
    exact ⟨x, hC, Or.inr (⟨by omega, by omega⟩)⟩
set_option maxRecDepth 100000 in
theorem xl_a8e7eb95 : ia_pl (ia_cls 134) 420 = some (1, 125, 0, 0, 2052) := by decide +kernel
set_option maxRecDepth 100000 in
theorem xn_c55f9e10 : ia_na 125 = 1 := by decide +kernel
set_option maxRecDepth 100000 in
theorem xc_77da5405 : ia_mc 125 = 0 ∧ ia_ms 125 = 0 := ⟨by decide +kernel, by decide +kernel⟩
set_option maxRecDepth 100000 in
theorem xv_50854d28 : cm_rcv 125 [.inr (.inr (some 184))] = true := by decide +kernel
set_option maxRecDepth 100000 in
theorem xd_25dbaac8 : decode (ia_code 134) 16 = .ok (.invokevirtual 420, 3) := fdd_d (by decide +kernel)
set_option maxRecDepth 100000 in
theorem xd_0779f311 : decode (ia_code 134) 19 = .ok (.istore_n 3, 1) := fdd_d (by decide +kernel)
set_option maxRecDepth 100000 in
theorem xd_d9df730d : decode (ia_code 134) 20 = .ok (.iload_n 1, 1) := fdd_d (by decide +kernel)
set_option maxRecDepth 100000 in
theorem xd_05282231 : decode (ia_code 134) 21 = .ok (.ifCond .ne 17, 3) := fdd_d (by decide +kernel)
set_option maxRecDepth 100000 in
theorem xd_9e23a84e : decode (ia_code 134) 24 = .ok (.iload_n 2, 1) := fdd_d (by decide +kernel)
set_option maxRecDepth 100000 in
theorem xd_91e9efb4 : decode (ia_code 134) 25 = .ok (.ifCond .ne 13, 3) := fdd_d (by decide +kernel)
set_option maxRecDepth 100000 in
theorem xd_a3a6634b : decode (ia_code 134) 28 = .ok (.iload_n 3, 1) := fdd_d (by decide +kernel)
set_option maxRecDepth 100000 in
theorem xd_4f86be8c : decode (ia_code 134) 29 = .ok (.ifCond .ge 9, 3) := fdd_d (by decide +kernel)
set_option maxRecDepth 100000 in
theorem xd_d20f3f1e : decode (ia_code 134) 32 = .ok (.aload_n 0, 1) := fdd_d (by decide +kernel)
set_option maxRecDepth 100000 in
theorem xd_d0c3907f : decode (ia_code 134) 33 = .ok (.iconst 1, 1) := fdd_d (by decide +kernel)
set_option maxRecDepth 100000 in
theorem xd_8d643dcb : decode (ia_code 134) 34 = .ok (.invokevirtual 176, 3) := fdd_d (by decide +kernel)
set_option maxRecDepth 100000 in
theorem xd_b7ba4c95 : decode (ia_code 134) 37 = .ok (.ireturn, 1) := fdd_d (by decide +kernel)
theorem hbd_ok {w : cm_W} {c t n H : Nat} (hJ : hJs w c t n 1 H) (hG : sv_w sg w) : ∃ x w', cm_C 3 243 [.inr (.inr (some 184))] w (some (.inl x), w') ∧ hFs w w' ∧ sv_w sg w' ∧ (x.toInt = 0 ∨ (x.toInt = 1 ∧ ∃ c' t' b' H', hJs w' c' t' n b' H' ∧ ((b' = 0 ∧ t' ≤ t + 1) ∨ (b' = 1 ∧ t' < t)))) := by
  have h : ∃ o, cm_C (2 + 1) 243 [.inr (.inr (some 184))] w o ∧ (fun o : cm_O => ∃ x w', o = (some (.inl x), w') ∧ hFs w w' ∧ sv_w sg w' ∧ (x.toInt = 0 ∨ (x.toInt = 1 ∧ ∃ c' t' b' H', hJs w' c' t' n b' H' ∧ ((b' = 0 ∧ t' ≤ t + 1) ∨ (b' = 1 ∧ t' < t))))) o := by
    refine wk_entry (by rw [xm_d11360b4]; exact Nat.le_of_ble_eq_true rfl) ?_
    rw [show cm_ent 243 [.inr (.inr (some 184))] = [some (.inr (.inr (some 184)))] from by unfold cm_ent; rw [xm_d11360b4]; rfl]
    refine wk_aload_n xd_a9336e10 rfl ?_
    obtain ⟨w1, c1, t1, H1, hC1, hJ1, hF1, hG1, ht1, -⟩ := hno_ok (w := w) hJ hG
    refine wk_call (kd := 0) (i := 429) xd_48e46800 rfl (wk_cal (as := [.inr (.inr (some 184))]) (t := []) xl_9fb905c4 rfl xn_e3da6fee xc_fa74d1ed rfl rfl xv_36cad7ca rfl) (cm_C_mono (by decide) hC1) ?_
    refine wk_aload_n xd_a96fcf83 rfl ?_
    refine aw_ldc2 xl_7e74c0a9 rfl xd_3761b37c ?_
    obtain ⟨xc1_, hCc1_, hxc1_⟩ := xs_120_037aea58 (w := w1) (l1 := (Int64.ofNat 6385252)) hG1
    refine wk_call (kd := 0) (i := 210) xd_d968e3bc rfl (wk_cal (as := [.inr (.inr (some 184)), .inr (.inl (Int64.ofNat 6385252))]) (t := []) xl_e0444f12 rfl xn_94b640da xc_24159032 rfl rfl xv_bdbd9e17 rfl) (cm_C_mono (by decide) hCc1_) ?_
    refine wk_if xd_3943ba61 (t := 24) rfl (fun h11_1 => ?_) (fun h11_1 => ?_)
    · have h11_1 := aw_ne_t (a := ((xc1_).toInt : Int)) (b := (0 : Int)) rfl hb_z h11_1
      refine wk_aload_n xd_cd34f6fa rfl ?_
      refine wk_aload_n xd_56471c2e rfl ?_
      refine aw_ldc2 xl_7e74c0a9 rfl xd_46c288f5 ?_
      obtain ⟨xc3_, hCc3_, hxc3_⟩ := xs_120_037aea58 (w := w1) (l1 := (Int64.ofNat 6385252)) hG1
      refine wk_call (kd := 0) (i := 210) xd_539048ee rfl (wk_cal (as := [.inr (.inr (some 184)), .inr (.inl (Int64.ofNat 6385252))]) (t := [.inr (.inr (some 184))]) xl_e0444f12 rfl xn_94b640da xc_24159032 rfl rfl xv_bdbd9e17 rfl) (cm_C_mono (by decide) hCc3_) ?_
      refine wk_if xd_3e2ac829 (t := 40) rfl (fun h32_3 => ?_) (fun h32_3 => ?_)
      · have h32_3 := aw_eq_t (a := ((xc3_).toInt : Int)) (b := (0 : Int)) rfl hb_z h32_3
        refine wk_bipush xd_0719d7b3 ?_
        obtain ⟨w2, c2, t2, H2, hC2, hJ2, hF2, hG2, ht2, hx2⟩ := hjo_ok (w := w1) ((Int8.ofInt 22).toInt32) hJ1 hG1
        refine wk_call (kd := 0) (i := 432) xd_2a10e77b rfl (wk_cal (as := [.inr (.inr (some 184)), .inl ((Int8.ofInt 22).toInt32)]) (t := []) xl_701b531b rfl xn_33df7a20 xc_445d2b36 rfl rfl xv_fe70f5fc rfl) (cm_C_mono (by decide) hC2) ?_
        have hf2 := hFs_tr hF1 hF2
        obtain ⟨k1, k2, k3, k4, k5, k6, k7, k8, k9⟩ := id hJ2
        refine wk_aload_n xd_e67a4e7e rfl ?_
        refine wk_getR xf_a2e724fb xd_4c70184a ?_
        refine wk_aload_n xd_e69faccb rfl ?_
        refine wk_getI xf_6a36cb46 xd_1ad0f29f ?_
        refine wk_aload_n xd_8a955923 rfl ?_
        refine aw_ldc2 xl_7e74c0a9 rfl xd_51a9b852 ?_
        obtain ⟨xc5_, hCc5_, hxc5_⟩ := xs_120_037aea58 (w := w2) (l1 := (Int64.ofNat 6385252)) hG2
        refine wk_call (kd := 0) (i := 210) xd_ba6a6e15 rfl (wk_cal (as := [.inr (.inr (some 184)), .inr (.inl (Int64.ofNat 6385252))]) (t := [.inl (w2.1 184 41), .inr (.inr (some 199))]) xl_e0444f12 rfl xn_94b640da xc_24159032 rfl rfl xv_bdbd9e17 rfl) (cm_C_mono (by decide) hCc5_) ?_
        refine wk_if xd_24adf342 (t := 68) rfl (fun h60_5 => ?_) (fun h60_5 => ?_)
        · have h60_5 := aw_eq_t (a := ((xc5_).toInt : Int)) (b := (0 : Int)) rfl hb_z h60_5
          refine wk_bipush xd_de9b589a ?_
          refine aw_iastore (i := t2) xf_80f5fdb6 (show ((w2.1 184 41)).toInt = ((t2 : Int) : Int) from k2) (by omega) (by omega) xd_80c60001 ?_
          have hf7_ : hFs w (cm_u1 w2 199 t2 ((Int8.ofInt 22).toInt32)) := fun k i x1 x2 x3 => (hs_u1_ne (by omega)).trans (hf2 k i x1 x2 x3)
          have hG8_ : sv_w sg (cm_u1 w2 199 t2 ((Int8.ofInt 22).toInt32)) := sv_w_u1 hG2 (by rw [xh_5d7eb382 t2 (by omega)]; exact sv_in_top _)
          refine wk_aload_n xd_be3846c5 rfl ?_
          refine wk_dup_r xd_6694be62 ?_
          refine wk_getI xf_6a36cb46 xd_359f29e5 ?_
          refine wk_iconst xd_93defcab ?_
          refine aw_iadd (a := ((t2 : Int) : Int)) (b := (1 : Int)) (e := ((t2 : Int) + 1 : Int)) xd_fae99263 (show (((cm_u1 w2 199 t2 ((Int8.ofInt 22).toInt32)).1 184 41)).toInt = ((t2 : Int) : Int) from k2) (show ((Int32.ofInt 1)).toInt = 1 from by decide) (by omega) (by omega) (by omega) (fun v9_ p9_ => ?_)
          refine wk_putI xf_18a7eb18 (fun ci => wk_fitI ci) xd_cd5db005 ?_
          have hf10_ : hFs w (cm_u1 (cm_u1 w2 199 t2 ((Int8.ofInt 22).toInt32)) 184 41 v9_) := fun k i x1 x2 x3 => (hs_u1_ne (by omega)).trans (hf7_ k i x1 x2 x3)
          have hG11_ : sv_w sg (cm_u1 (cm_u1 w2 199 t2 ((Int8.ofInt 22).toInt32)) 184 41 v9_) := sv_w_u1 hG8_ (by rw [xg_f29d027f]; exact hb_mk (by rw [p9_]; omega) (by rw [p9_]; omega))
          refine wk_aload_n xd_5d2d4d0c rfl ?_
          refine wk_iconst xd_841f9d93 ?_
          refine wk_putI xf_9d4a51d1 (fun _ => aw_fb (.inl (by decide))) xd_73a06743 ?_
          have hf12_ : hFs w (cm_u1 (cm_u1 (cm_u1 w2 199 t2 ((Int8.ofInt 22).toInt32)) 184 41 v9_) 184 43 (Int32.ofInt 0)) := fun k i x1 x2 x3 => (hs_u1_ne (by omega)).trans (hf10_ k i x1 x2 x3)
          have hG13_ : sv_w sg (cm_u1 (cm_u1 (cm_u1 w2 199 t2 ((Int8.ofInt 22).toInt32)) 184 41 v9_) 184 43 (Int32.ofInt 0)) := sv_w_u1 hG11_ (by rw [xg_03c1839c]; exact hb_mk (by rw [(show ((Int32.ofInt 0)).toInt = 0 from by decide)]; omega) (by rw [(show ((Int32.ofInt 0)).toInt = 0 from by decide)]; omega))
          refine wk_aload_n xd_2b94d5a2 rfl ?_
          have hj3 : hJs (cm_u1 (cm_u1 (cm_u1 w2 199 t2 ((Int8.ofInt 22).toInt32)) 184 41 v9_) 184 43 (Int32.ofInt 0)) c2 (t2 + 1) n 0 H2 := hJs_join hJ2 (fun j => rfl) (fun j hj => by rw [hs_u1_ne (by omega), hs_u1_ne (by omega), hs_u1_ne (by omega)]) (by show 21 ≤ ((cm_u1 (cm_u1 (cm_u1 w2 199 t2 ((Int8.ofInt 22).toInt32)) 184 41 v9_) 184 43 (Int32.ofInt 0)).1 199 t2).toInt ∧ ((cm_u1 (cm_u1 (cm_u1 w2 199 t2 ((Int8.ofInt 22).toInt32)) 184 41 v9_) 184 43 (Int32.ofInt 0)).1 199 t2).toInt ≤ 22; rw [hs_u1_ne (by omega), hs_u1_ne (by omega), hs_u1_self]; decide) rfl rfl ((show (((cm_u1 (cm_u1 (cm_u1 w2 199 t2 ((Int8.ofInt 22).toInt32)) 184 41 v9_) 184 43 (Int32.ofInt 0)).1 184 41)).toInt = ((t2 : Int) + 1 : Int) from p9_).trans (by omega)) (show (Int32.ofInt 0).toInt = 0 from by decide)
          obtain ⟨wc14_, hCc14_, hGc14_, hFc14_, hxc14_⟩ := xs_129_f2ad130c (w := (cm_u1 (cm_u1 (cm_u1 w2 199 t2 ((Int8.ofInt 22).toInt32)) 184 41 v9_) 184 43 (Int32.ofInt 0))) hG13_
          refine wk_call (kd := 0) (i := 179) xd_338fde30 rfl (wk_cal (as := [.inr (.inr (some 184))]) (t := []) xl_2811697b rfl xn_00af7311 xc_b2cf5bb1 rfl rfl xv_e7aa8f3d rfl) (cm_C_mono (by decide) hCc14_) ?_
          have hf15_ : hFs w wc14_ := fun k i x1 x2 x3 => ((hFc14_ k i (by omega)).1).trans (hf12_ k i x1 x2 x3)
          have hj4 := hJs_fr hj3 (v := wc14_) (fun j => (hFc14_ 188 j (by omega)).1) (fun j => (hFc14_ 199 j (by omega)).1) (fun i _ _ _ => (hFc14_ 184 i (by omega)).1)
          refine wk_iconst xd_0c5c9777 ?_
          exact wk_ireturn xd_73930c9e xr_b1910b0e wk_z1 ⟨_, _, rfl, hf15_, hGc14_, .inr ⟨by decide, c2, t2 + 1, 0, H2, hj4, .inl ⟨rfl, by omega⟩⟩⟩
        · have h60_5 := aw_eq_f (a := ((xc5_).toInt : Int)) (b := (0 : Int)) rfl hb_z h60_5
          refine wk_bipush xd_ef675851 ?_
          refine wk_goto xd_2812c8e0 (t := 70) rfl ?_
          refine aw_iastore (i := t2) xf_80f5fdb6 (show ((w2.1 184 41)).toInt = ((t2 : Int) : Int) from k2) (by omega) (by omega) xd_80c60001 ?_
          have hf16_ : hFs w (cm_u1 w2 199 t2 ((Int8.ofInt 21).toInt32)) := fun k i x1 x2 x3 => (hs_u1_ne (by omega)).trans (hf2 k i x1 x2 x3)
          have hG17_ : sv_w sg (cm_u1 w2 199 t2 ((Int8.ofInt 21).toInt32)) := sv_w_u1 hG2 (by rw [xh_5d7eb382 t2 (by omega)]; exact sv_in_top _)
          refine wk_aload_n xd_be3846c5 rfl ?_
          refine wk_dup_r xd_6694be62 ?_
          refine wk_getI xf_6a36cb46 xd_359f29e5 ?_
          refine wk_iconst xd_93defcab ?_
          refine aw_iadd (a := ((t2 : Int) : Int)) (b := (1 : Int)) (e := ((t2 : Int) + 1 : Int)) xd_fae99263 (show (((cm_u1 w2 199 t2 ((Int8.ofInt 21).toInt32)).1 184 41)).toInt = ((t2 : Int) : Int) from k2) (show ((Int32.ofInt 1)).toInt = 1 from by decide) (by omega) (by omega) (by omega) (fun v18_ p18_ => ?_)
          refine wk_putI xf_18a7eb18 (fun ci => wk_fitI ci) xd_cd5db005 ?_
          have hf19_ : hFs w (cm_u1 (cm_u1 w2 199 t2 ((Int8.ofInt 21).toInt32)) 184 41 v18_) := fun k i x1 x2 x3 => (hs_u1_ne (by omega)).trans (hf16_ k i x1 x2 x3)
          have hG20_ : sv_w sg (cm_u1 (cm_u1 w2 199 t2 ((Int8.ofInt 21).toInt32)) 184 41 v18_) := sv_w_u1 hG17_ (by rw [xg_f29d027f]; exact hb_mk (by rw [p18_]; omega) (by rw [p18_]; omega))
          refine wk_aload_n xd_5d2d4d0c rfl ?_
          refine wk_iconst xd_841f9d93 ?_
          refine wk_putI xf_9d4a51d1 (fun _ => aw_fb (.inl (by decide))) xd_73a06743 ?_
          have hf21_ : hFs w (cm_u1 (cm_u1 (cm_u1 w2 199 t2 ((Int8.ofInt 21).toInt32)) 184 41 v18_) 184 43 (Int32.ofInt 0)) := fun k i x1 x2 x3 => (hs_u1_ne (by omega)).trans (hf19_ k i x1 x2 x3)
          have hG22_ : sv_w sg (cm_u1 (cm_u1 (cm_u1 w2 199 t2 ((Int8.ofInt 21).toInt32)) 184 41 v18_) 184 43 (Int32.ofInt 0)) := sv_w_u1 hG20_ (by rw [xg_03c1839c]; exact hb_mk (by rw [(show ((Int32.ofInt 0)).toInt = 0 from by decide)]; omega) (by rw [(show ((Int32.ofInt 0)).toInt = 0 from by decide)]; omega))
          refine wk_aload_n xd_2b94d5a2 rfl ?_
          have hj3 : hJs (cm_u1 (cm_u1 (cm_u1 w2 199 t2 ((Int8.ofInt 21).toInt32)) 184 41 v18_) 184 43 (Int32.ofInt 0)) c2 (t2 + 1) n 0 H2 := hJs_join hJ2 (fun j => rfl) (fun j hj => by rw [hs_u1_ne (by omega), hs_u1_ne (by omega), hs_u1_ne (by omega)]) (by show 21 ≤ ((cm_u1 (cm_u1 (cm_u1 w2 199 t2 ((Int8.ofInt 21).toInt32)) 184 41 v18_) 184 43 (Int32.ofInt 0)).1 199 t2).toInt ∧ ((cm_u1 (cm_u1 (cm_u1 w2 199 t2 ((Int8.ofInt 21).toInt32)) 184 41 v18_) 184 43 (Int32.ofInt 0)).1 199 t2).toInt ≤ 22; rw [hs_u1_ne (by omega), hs_u1_ne (by omega), hs_u1_self]; decide) rfl rfl ((show (((cm_u1 (cm_u1 (cm_u1 w2 199 t2 ((Int8.ofInt 21).toInt32)) 184 41 v18_) 184 43 (Int32.ofInt 0)).1 184 41)).toInt = ((t2 : Int) + 1 : Int) from p18_).trans (by omega)) (show (Int32.ofInt 0).toInt = 0 from by decide)
          obtain ⟨wc23_, hCc23_, hGc23_, hFc23_, hxc23_⟩ := xs_129_f2ad130c (w := (cm_u1 (cm_u1 (cm_u1 w2 199 t2 ((Int8.ofInt 21).toInt32)) 184 41 v18_) 184 43 (Int32.ofInt 0))) hG22_
          refine wk_call (kd := 0) (i := 179) xd_338fde30 rfl (wk_cal (as := [.inr (.inr (some 184))]) (t := []) xl_2811697b rfl xn_00af7311 xc_b2cf5bb1 rfl rfl xv_e7aa8f3d rfl) (cm_C_mono (by decide) hCc23_) ?_
          have hf24_ : hFs w wc23_ := fun k i x1 x2 x3 => ((hFc23_ k i (by omega)).1).trans (hf21_ k i x1 x2 x3)
          have hj4 := hJs_fr hj3 (v := wc23_) (fun j => (hFc23_ 188 j (by omega)).1) (fun j => (hFc23_ 199 j (by omega)).1) (fun i _ _ _ => (hFc23_ 184 i (by omega)).1)
          refine wk_iconst xd_0c5c9777 ?_
          exact wk_ireturn xd_73930c9e xr_b1910b0e wk_z1 ⟨_, _, rfl, hf24_, hGc23_, .inr ⟨by decide, c2, t2 + 1, 0, H2, hj4, .inl ⟨rfl, by omega⟩⟩⟩
      · have h32_3 := aw_eq_f (a := ((xc3_).toInt : Int)) (b := (0 : Int)) rfl hb_z h32_3
        refine wk_bipush xd_ea8ed153 ?_
        refine wk_goto xd_6fff3949 (t := 42) rfl ?_
        obtain ⟨w2, c2, t2, H2, hC2, hJ2, hF2, hG2, ht2, hx2⟩ := hjo_ok (w := w1) ((Int8.ofInt 21).toInt32) hJ1 hG1
        refine wk_call (kd := 0) (i := 432) xd_2a10e77b rfl (wk_cal (as := [.inr (.inr (some 184)), .inl ((Int8.ofInt 21).toInt32)]) (t := []) xl_701b531b rfl xn_33df7a20 xc_445d2b36 rfl rfl xv_fe70f5fc rfl) (cm_C_mono (by decide) hC2) ?_
        have hf2 := hFs_tr hF1 hF2
        obtain ⟨k1, k2, k3, k4, k5, k6, k7, k8, k9⟩ := id hJ2
        refine wk_aload_n xd_e67a4e7e rfl ?_
        refine wk_getR xf_a2e724fb xd_4c70184a ?_
        refine wk_aload_n xd_e69faccb rfl ?_
        refine wk_getI xf_6a36cb46 xd_1ad0f29f ?_
        refine wk_aload_n xd_8a955923 rfl ?_
        refine aw_ldc2 xl_7e74c0a9 rfl xd_51a9b852 ?_
        obtain ⟨xc25_, hCc25_, hxc25_⟩ := xs_120_037aea58 (w := w2) (l1 := (Int64.ofNat 6385252)) hG2
        refine wk_call (kd := 0) (i := 210) xd_ba6a6e15 rfl (wk_cal (as := [.inr (.inr (some 184)), .inr (.inl (Int64.ofNat 6385252))]) (t := [.inl (w2.1 184 41), .inr (.inr (some 199))]) xl_e0444f12 rfl xn_94b640da xc_24159032 rfl rfl xv_bdbd9e17 rfl) (cm_C_mono (by decide) hCc25_) ?_
        refine wk_if xd_24adf342 (t := 68) rfl (fun h60_25 => ?_) (fun h60_25 => ?_)
        · have h60_25 := aw_eq_t (a := ((xc25_).toInt : Int)) (b := (0 : Int)) rfl hb_z h60_25
          refine wk_bipush xd_de9b589a ?_
          refine aw_iastore (i := t2) xf_80f5fdb6 (show ((w2.1 184 41)).toInt = ((t2 : Int) : Int) from k2) (by omega) (by omega) xd_80c60001 ?_
          have hf27_ : hFs w (cm_u1 w2 199 t2 ((Int8.ofInt 22).toInt32)) := fun k i x1 x2 x3 => (hs_u1_ne (by omega)).trans (hf2 k i x1 x2 x3)
          have hG28_ : sv_w sg (cm_u1 w2 199 t2 ((Int8.ofInt 22).toInt32)) := sv_w_u1 hG2 (by rw [xh_5d7eb382 t2 (by omega)]; exact sv_in_top _)
          refine wk_aload_n xd_be3846c5 rfl ?_
          refine wk_dup_r xd_6694be62 ?_
          refine wk_getI xf_6a36cb46 xd_359f29e5 ?_
          refine wk_iconst xd_93defcab ?_
          refine aw_iadd (a := ((t2 : Int) : Int)) (b := (1 : Int)) (e := ((t2 : Int) + 1 : Int)) xd_fae99263 (show (((cm_u1 w2 199 t2 ((Int8.ofInt 22).toInt32)).1 184 41)).toInt = ((t2 : Int) : Int) from k2) (show ((Int32.ofInt 1)).toInt = 1 from by decide) (by omega) (by omega) (by omega) (fun v29_ p29_ => ?_)
          refine wk_putI xf_18a7eb18 (fun ci => wk_fitI ci) xd_cd5db005 ?_
          have hf30_ : hFs w (cm_u1 (cm_u1 w2 199 t2 ((Int8.ofInt 22).toInt32)) 184 41 v29_) := fun k i x1 x2 x3 => (hs_u1_ne (by omega)).trans (hf27_ k i x1 x2 x3)
          have hG31_ : sv_w sg (cm_u1 (cm_u1 w2 199 t2 ((Int8.ofInt 22).toInt32)) 184 41 v29_) := sv_w_u1 hG28_ (by rw [xg_f29d027f]; exact hb_mk (by rw [p29_]; omega) (by rw [p29_]; omega))
          refine wk_aload_n xd_5d2d4d0c rfl ?_
          refine wk_iconst xd_841f9d93 ?_
          refine wk_putI xf_9d4a51d1 (fun _ => aw_fb (.inl (by decide))) xd_73a06743 ?_
          have hf32_ : hFs w (cm_u1 (cm_u1 (cm_u1 w2 199 t2 ((Int8.ofInt 22).toInt32)) 184 41 v29_) 184 43 (Int32.ofInt 0)) := fun k i x1 x2 x3 => (hs_u1_ne (by omega)).trans (hf30_ k i x1 x2 x3)
          have hG33_ : sv_w sg (cm_u1 (cm_u1 (cm_u1 w2 199 t2 ((Int8.ofInt 22).toInt32)) 184 41 v29_) 184 43 (Int32.ofInt 0)) := sv_w_u1 hG31_ (by rw [xg_03c1839c]; exact hb_mk (by rw [(show ((Int32.ofInt 0)).toInt = 0 from by decide)]; omega) (by rw [(show ((Int32.ofInt 0)).toInt = 0 from by decide)]; omega))
          refine wk_aload_n xd_2b94d5a2 rfl ?_
          have hj3 : hJs (cm_u1 (cm_u1 (cm_u1 w2 199 t2 ((Int8.ofInt 22).toInt32)) 184 41 v29_) 184 43 (Int32.ofInt 0)) c2 (t2 + 1) n 0 H2 := hJs_join hJ2 (fun j => rfl) (fun j hj => by rw [hs_u1_ne (by omega), hs_u1_ne (by omega), hs_u1_ne (by omega)]) (by show 21 ≤ ((cm_u1 (cm_u1 (cm_u1 w2 199 t2 ((Int8.ofInt 22).toInt32)) 184 41 v29_) 184 43 (Int32.ofInt 0)).1 199 t2).toInt ∧ ((cm_u1 (cm_u1 (cm_u1 w2 199 t2 ((Int8.ofInt 22).toInt32)) 184 41 v29_) 184 43 (Int32.ofInt 0)).1 199 t2).toInt ≤ 22; rw [hs_u1_ne (by omega), hs_u1_ne (by omega), hs_u1_self]; decide) rfl rfl ((show (((cm_u1 (cm_u1 (cm_u1 w2 199 t2 ((Int8.ofInt 22).toInt32)) 184 41 v29_) 184 43 (Int32.ofInt 0)).1 184 41)).toInt = ((t2 : Int) + 1 : Int) from p29_).trans (by omega)) (show (Int32.ofInt 0).toInt = 0 from by decide)
          obtain ⟨wc34_, hCc34_, hGc34_, hFc34_, hxc34_⟩ := xs_129_f2ad130c (w := (cm_u1 (cm_u1 (cm_u1 w2 199 t2 ((Int8.ofInt 22).toInt32)) 184 41 v29_) 184 43 (Int32.ofInt 0))) hG33_
          refine wk_call (kd := 0) (i := 179) xd_338fde30 rfl (wk_cal (as := [.inr (.inr (some 184))]) (t := []) xl_2811697b rfl xn_00af7311 xc_b2cf5bb1 rfl rfl xv_e7aa8f3d rfl) (cm_C_mono (by decide) hCc34_) ?_
          have hf35_ : hFs w wc34_ := fun k i x1 x2 x3 => ((hFc34_ k i (by omega)).1).trans (hf32_ k i x1 x2 x3)
          have hj4 := hJs_fr hj3 (v := wc34_) (fun j => (hFc34_ 188 j (by omega)).1) (fun j => (hFc34_ 199 j (by omega)).1) (fun i _ _ _ => (hFc34_ 184 i (by omega)).1)
          refine wk_iconst xd_0c5c9777 ?_
          exact wk_ireturn xd_73930c9e xr_b1910b0e wk_z1 ⟨_, _, rfl, hf35_, hGc34_, .inr ⟨by decide, c2, t2 + 1, 0, H2, hj4, .inl ⟨rfl, by omega⟩⟩⟩
        · have h60_25 := aw_eq_f (a := ((xc25_).toInt : Int)) (b := (0 : Int)) rfl hb_z h60_25
          refine wk_bipush xd_ef675851 ?_
          refine wk_goto xd_2812c8e0 (t := 70) rfl ?_
          refine aw_iastore (i := t2) xf_80f5fdb6 (show ((w2.1 184 41)).toInt = ((t2 : Int) : Int) from k2) (by omega) (by omega) xd_80c60001 ?_
          have hf36_ : hFs w (cm_u1 w2 199 t2 ((Int8.ofInt 21).toInt32)) := fun k i x1 x2 x3 => (hs_u1_ne (by omega)).trans (hf2 k i x1 x2 x3)
          have hG37_ : sv_w sg (cm_u1 w2 199 t2 ((Int8.ofInt 21).toInt32)) := sv_w_u1 hG2 (by rw [xh_5d7eb382 t2 (by omega)]; exact sv_in_top _)
          refine wk_aload_n xd_be3846c5 rfl ?_
          refine wk_dup_r xd_6694be62 ?_
          refine wk_getI xf_6a36cb46 xd_359f29e5 ?_
          refine wk_iconst xd_93defcab ?_
          refine aw_iadd (a := ((t2 : Int) : Int)) (b := (1 : Int)) (e := ((t2 : Int) + 1 : Int)) xd_fae99263 (show (((cm_u1 w2 199 t2 ((Int8.ofInt 21).toInt32)).1 184 41)).toInt = ((t2 : Int) : Int) from k2) (show ((Int32.ofInt 1)).toInt = 1 from by decide) (by omega) (by omega) (by omega) (fun v38_ p38_ => ?_)
          refine wk_putI xf_18a7eb18 (fun ci => wk_fitI ci) xd_cd5db005 ?_
          have hf39_ : hFs w (cm_u1 (cm_u1 w2 199 t2 ((Int8.ofInt 21).toInt32)) 184 41 v38_) := fun k i x1 x2 x3 => (hs_u1_ne (by omega)).trans (hf36_ k i x1 x2 x3)
          have hG40_ : sv_w sg (cm_u1 (cm_u1 w2 199 t2 ((Int8.ofInt 21).toInt32)) 184 41 v38_) := sv_w_u1 hG37_ (by rw [xg_f29d027f]; exact hb_mk (by rw [p38_]; omega) (by rw [p38_]; omega))
          refine wk_aload_n xd_5d2d4d0c rfl ?_
          refine wk_iconst xd_841f9d93 ?_
          refine wk_putI xf_9d4a51d1 (fun _ => aw_fb (.inl (by decide))) xd_73a06743 ?_
          have hf41_ : hFs w (cm_u1 (cm_u1 (cm_u1 w2 199 t2 ((Int8.ofInt 21).toInt32)) 184 41 v38_) 184 43 (Int32.ofInt 0)) := fun k i x1 x2 x3 => (hs_u1_ne (by omega)).trans (hf39_ k i x1 x2 x3)
          have hG42_ : sv_w sg (cm_u1 (cm_u1 (cm_u1 w2 199 t2 ((Int8.ofInt 21).toInt32)) 184 41 v38_) 184 43 (Int32.ofInt 0)) := sv_w_u1 hG40_ (by rw [xg_03c1839c]; exact hb_mk (by rw [(show ((Int32.ofInt 0)).toInt = 0 from by decide)]; omega) (by rw [(show ((Int32.ofInt 0)).toInt = 0 from by decide)]; omega))
          refine wk_aload_n xd_2b94d5a2 rfl ?_
          have hj3 : hJs (cm_u1 (cm_u1 (cm_u1 w2 199 t2 ((Int8.ofInt 21).toInt32)) 184 41 v38_) 184 43 (Int32.ofInt 0)) c2 (t2 + 1) n 0 H2 := hJs_join hJ2 (fun j => rfl) (fun j hj => by rw [hs_u1_ne (by omega), hs_u1_ne (by omega), hs_u1_ne (by omega)]) (by show 21 ≤ ((cm_u1 (cm_u1 (cm_u1 w2 199 t2 ((Int8.ofInt 21).toInt32)) 184 41 v38_) 184 43 (Int32.ofInt 0)).1 199 t2).toInt ∧ ((cm_u1 (cm_u1 (cm_u1 w2 199 t2 ((Int8.ofInt 21).toInt32)) 184 41 v38_) 184 43 (Int32.ofInt 0)).1 199 t2).toInt ≤ 22; rw [hs_u1_ne (by omega), hs_u1_ne (by omega), hs_u1_self]; decide) rfl rfl ((show (((cm_u1 (cm_u1 (cm_u1 w2 199 t2 ((Int8.ofInt 21).toInt32)) 184 41 v38_) 184 43 (Int32.ofInt 0)).1 184 41)).toInt = ((t2 : Int) + 1 : Int) from p38_).trans (by omega)) (show (Int32.ofInt 0).toInt = 0 from by decide)
          obtain ⟨wc43_, hCc43_, hGc43_, hFc43_, hxc43_⟩ := xs_129_f2ad130c (w := (cm_u1 (cm_u1 (cm_u1 w2 199 t2 ((Int8.ofInt 21).toInt32)) 184 41 v38_) 184 43 (Int32.ofInt 0))) hG42_
          refine wk_call (kd := 0) (i := 179) xd_338fde30 rfl (wk_cal (as := [.inr (.inr (some 184))]) (t := []) xl_2811697b rfl xn_00af7311 xc_b2cf5bb1 rfl rfl xv_e7aa8f3d rfl) (cm_C_mono (by decide) hCc43_) ?_
          have hf44_ : hFs w wc43_ := fun k i x1 x2 x3 => ((hFc43_ k i (by omega)).1).trans (hf41_ k i x1 x2 x3)
          have hj4 := hJs_fr hj3 (v := wc43_) (fun j => (hFc43_ 188 j (by omega)).1) (fun j => (hFc43_ 199 j (by omega)).1) (fun i _ _ _ => (hFc43_ 184 i (by omega)).1)
          refine wk_iconst xd_0c5c9777 ?_
          exact wk_ireturn xd_73930c9e xr_b1910b0e wk_z1 ⟨_, _, rfl, hf44_, hGc43_, .inr ⟨by decide, c2, t2 + 1, 0, H2, hj4, .inl ⟨rfl, by omega⟩⟩⟩
    · have h11_1 := aw_ne_f (a := ((xc1_).toInt : Int)) (b := (0 : Int)) rfl hb_z h11_1
      refine wk_aload_n xd_952a5fd2 rfl ?_
      refine aw_ldc2 xl_d8ce3c22 rfl xd_9dd5aee1 ?_
      obtain ⟨xc45_, hCc45_, hxc45_⟩ := xs_120_037aea58 (w := w1) (l1 := (Int64.ofNat 28530)) hG1
      refine wk_call (kd := 0) (i := 210) xd_9468a880 rfl (wk_cal (as := [.inr (.inr (some 184)), .inr (.inl (Int64.ofNat 28530))]) (t := []) xl_e0444f12 rfl xn_94b640da xc_24159032 rfl rfl xv_bdbd9e17 rfl) (cm_C_mono (by decide) hCc45_) ?_
      refine wk_if xd_eda0ac37 (t := 92) rfl (fun h21_45 => ?_) (fun h21_45 => ?_)
      · have h21_45 := aw_eq_t (a := ((xc45_).toInt : Int)) (b := (0 : Int)) rfl hb_z h21_45
        refine wk_aload_n xd_aaed1116 rfl ?_
        refine wk_bipush xd_4bd22948 ?_
        obtain ⟨w2, c2, t2, H2, hC2, hJ2, hF2, hG2, ht2, hx2⟩ := hjo_ok (w := w1) ((Int8.ofInt 22).toInt32) hJ1 hG1
        refine wk_call (kd := 0) (i := 432) xd_61e35698 rfl (wk_cal (as := [.inr (.inr (some 184)), .inl ((Int8.ofInt 22).toInt32)]) (t := []) xl_701b531b rfl xn_33df7a20 xc_445d2b36 rfl rfl xv_fe70f5fc rfl) (cm_C_mono (by decide) hC2) ?_
        have hf2 := hFs_tr hF1 hF2
        obtain ⟨k1, k2, k3, k4, k5, k6, k7, k8, k9⟩ := id hJ2
        refine wk_aload_n xd_47c281d9 rfl ?_
        refine wk_bipush xd_3704204a ?_
        obtain ⟨xc47_, hCc47_, hxc47_⟩ := xs_118_d21a6527 (w := w2) (a1 := ((Int8.ofInt 41).toInt32)) hG2
        refine wk_call (kd := 0) (i := 173) xd_9359fcef rfl (wk_cal (as := [.inr (.inr (some 184)), .inl ((Int8.ofInt 41).toInt32)]) (t := []) xl_73055a27 rfl xn_225279b5 xc_ca564353 rfl rfl xv_bcdeec94 rfl) (cm_C_mono (by decide) hCc47_) ?_
        refine wk_if xd_b7aeddaf (t := 114) rfl (fun h104_47 => ?_) (fun h104_47 => ?_)
        · have h104_47 := aw_eq_t (a := ((xc47_).toInt : Int)) (b := (0 : Int)) rfl hb_z h104_47
          refine wk_aload_n xd_897a7b20 rfl ?_
          refine wk_iconst xd_7b29b3c0 ?_
          obtain ⟨xc49_, wc49_, hCc49_, hGc49_, hFc49_, hxc49_⟩ := xs_94_689db261 (w := w2) (a1 := (Int32.ofInt 1)) hG2
          refine wk_call (kd := 0) (i := 176) xd_82d4ec02 rfl (wk_cal (as := [.inr (.inr (some 184)), .inl (Int32.ofInt 1)]) (t := []) xl_05a5d0ae rfl xn_f63023b8 xc_1907b494 rfl rfl xv_a1095a1b rfl) (cm_C_mono (by decide) hCc49_) ?_
          have hf50_ : hFs w wc49_ := fun k i x1 x2 x3 => ((hFc49_ k i (by omega)).1).trans (hf2 k i x1 x2 x3)
          exact wk_ireturn xd_a956a3cc xr_b1910b0e (aw_bit (by omega) (by omega)) ⟨_, _, rfl, hf50_, hGc49_, .inl (by omega)⟩
        · have h104_47 := aw_eq_f (a := ((xc47_).toInt : Int)) (b := (0 : Int)) rfl hb_z h104_47
          refine wk_aload_n xd_7eba273a rfl ?_
          refine wk_getI xf_6a36cb46 xd_6cf7b8d7 ?_
          refine wk_if xd_ce3d8998 (t := 120) rfl (fun h111_50 => ?_) (fun h111_50 => ?_)
          · have h111_50 := aw_ne_t (a := ((t2 : Int) : Int)) (b := (0 : Int)) (show ((w2.1 184 41)).toInt = ((t2 : Int) : Int) from k2) hb_z h111_50
            obtain ⟨t3, rfl⟩ : ∃ t3, t2 = t3 + 1 := ⟨t2 - 1, by omega⟩
            have k2' : (w2.1 184 41).toInt = ((t3 : Int) + 1 : Int) := by rw [k2]; omega
            refine wk_aload_n xd_d138739b rfl ?_
            refine wk_dup_r xd_5591be06 ?_
            refine wk_getI xf_6a36cb46 xd_f18ce886 ?_
            refine wk_iconst xd_0dcc8afd ?_
            refine aw_isub (a := ((t3 : Int) + 1 : Int)) (b := (1 : Int)) (e := ((t3 : Int) : Int)) xd_025af0d8 (show ((w2.1 184 41)).toInt = ((t3 : Int) + 1 : Int) from k2') (show ((Int32.ofInt 1)).toInt = 1 from by decide) (by omega) (by omega) (by omega) (fun v52_ p52_ => ?_)
            refine wk_putI xf_18a7eb18 (fun ci => wk_fitI ci) xd_63b9816b ?_
            have hf53_ : hFs w (cm_u1 w2 184 41 v52_) := fun k i x1 x2 x3 => (hs_u1_ne (by omega)).trans (hf2 k i x1 x2 x3)
            have hG54_ : sv_w sg (cm_u1 w2 184 41 v52_) := sv_w_u1 hG2 (by rw [xg_f29d027f]; exact hb_mk (by rw [p52_]; omega) (by rw [p52_]; omega))
            refine wk_aload_n xd_501d16bc rfl ?_
            refine wk_dup_r xd_bac308e7 ?_
            refine wk_getI xf_a1930c0e xd_2d202fd7 ?_
            refine wk_iconst xd_96bf6029 ?_
            refine wk_isub xd_d5b87080 ?_
            refine wk_putI xf_d3022c50 (fun ci => wk_fitI ci) xd_bf15463a ?_
            have hf55_ : hFs w (cm_u1 (cm_u1 w2 184 41 v52_) 184 42 (((cm_u1 w2 184 41 v52_).1 184 42) - (Int32.ofInt 1))) := fun k i x1 x2 x3 => (hs_u1_ne (by omega)).trans (hf53_ k i x1 x2 x3)
            have hG56_ : sv_w sg (cm_u1 (cm_u1 w2 184 41 v52_) 184 42 (((cm_u1 w2 184 41 v52_).1 184 42) - (Int32.ofInt 1))) := sv_w_u1 hG54_ (by rw [xg_fb7c9e3d]; exact sv_in_top _)
            refine wk_aload_n xd_610521cb rfl ?_
            have hj3 : hJs (cm_u1 (cm_u1 w2 184 41 v52_) 184 42 (((cm_u1 w2 184 41 v52_).1 184 42) - (Int32.ofInt 1))) c2 t3 n 1 H2 := hJs_close hJ2 ((hx2 (by decide)).resolve_left (by omega)) (fun j => rfl) (fun j => rfl) rfl rfl ((show (((cm_u1 (cm_u1 w2 184 41 v52_) 184 42 (((cm_u1 w2 184 41 v52_).1 184 42) - (Int32.ofInt 1))).1 184 41)).toInt = ((t3 : Int) : Int) from p52_).trans (by omega)) rfl
            obtain ⟨wc57_, hCc57_, hGc57_, hFc57_, hxc57_⟩ := xs_129_f2ad130c (w := (cm_u1 (cm_u1 w2 184 41 v52_) 184 42 (((cm_u1 w2 184 41 v52_).1 184 42) - (Int32.ofInt 1)))) hG56_
            refine wk_call (kd := 0) (i := 179) xd_a863fe64 rfl (wk_cal (as := [.inr (.inr (some 184))]) (t := []) xl_2811697b rfl xn_00af7311 xc_b2cf5bb1 rfl rfl xv_e7aa8f3d rfl) (cm_C_mono (by decide) hCc57_) ?_
            have hf58_ : hFs w wc57_ := fun k i x1 x2 x3 => ((hFc57_ k i (by omega)).1).trans (hf55_ k i x1 x2 x3)
            have hj4 := hJs_fr hj3 (v := wc57_) (fun j => (hFc57_ 188 j (by omega)).1) (fun j => (hFc57_ 199 j (by omega)).1) (fun i _ _ _ => (hFc57_ 184 i (by omega)).1)
            refine wk_iconst xd_f72e9c47 ?_
            exact wk_ireturn xd_d5d459c1 xr_b1910b0e wk_z1 ⟨_, _, rfl, hf58_, hGc57_, .inr ⟨by decide, c2, t3, 1, H2, hj4, .inr ⟨rfl, by omega⟩⟩⟩
          · have h111_50 := aw_ne_f (a := ((t2 : Int) : Int)) (b := (0 : Int)) (show ((w2.1 184 41)).toInt = ((t2 : Int) : Int) from k2) hb_z h111_50
            refine wk_aload_n xd_897a7b20 rfl ?_
            refine wk_iconst xd_7b29b3c0 ?_
            obtain ⟨xc59_, wc59_, hCc59_, hGc59_, hFc59_, hxc59_⟩ := xs_94_689db261 (w := w2) (a1 := (Int32.ofInt 1)) hG2
            refine wk_call (kd := 0) (i := 176) xd_82d4ec02 rfl (wk_cal (as := [.inr (.inr (some 184)), .inl (Int32.ofInt 1)]) (t := []) xl_05a5d0ae rfl xn_f63023b8 xc_1907b494 rfl rfl xv_a1095a1b rfl) (cm_C_mono (by decide) hCc59_) ?_
            have hf60_ : hFs w wc59_ := fun k i x1 x2 x3 => ((hFc59_ k i (by omega)).1).trans (hf2 k i x1 x2 x3)
            exact wk_ireturn xd_a956a3cc xr_b1910b0e (aw_bit (by omega) (by omega)) ⟨_, _, rfl, hf60_, hGc59_, .inl (by omega)⟩
      · have h21_45 := aw_eq_f (a := ((xc45_).toInt : Int)) (b := (0 : Int)) rfl hb_z h21_45
        refine wk_aload_n xd_cd34f6fa rfl ?_
        refine wk_aload_n xd_56471c2e rfl ?_
        refine aw_ldc2 xl_7e74c0a9 rfl xd_46c288f5 ?_
        obtain ⟨xc61_, hCc61_, hxc61_⟩ := xs_120_037aea58 (w := w1) (l1 := (Int64.ofNat 6385252)) hG1
        refine wk_call (kd := 0) (i := 210) xd_539048ee rfl (wk_cal (as := [.inr (.inr (some 184)), .inr (.inl (Int64.ofNat 6385252))]) (t := [.inr (.inr (some 184))]) xl_e0444f12 rfl xn_94b640da xc_24159032 rfl rfl xv_bdbd9e17 rfl) (cm_C_mono (by decide) hCc61_) ?_
        refine wk_if xd_3e2ac829 (t := 40) rfl (fun h32_61 => ?_) (fun h32_61 => ?_)
        · have h32_61 := aw_eq_t (a := ((xc61_).toInt : Int)) (b := (0 : Int)) rfl hb_z h32_61
          refine wk_bipush xd_0719d7b3 ?_
          obtain ⟨w2, c2, t2, H2, hC2, hJ2, hF2, hG2, ht2, hx2⟩ := hjo_ok (w := w1) ((Int8.ofInt 22).toInt32) hJ1 hG1
          refine wk_call (kd := 0) (i := 432) xd_2a10e77b rfl (wk_cal (as := [.inr (.inr (some 184)), .inl ((Int8.ofInt 22).toInt32)]) (t := []) xl_701b531b rfl xn_33df7a20 xc_445d2b36 rfl rfl xv_fe70f5fc rfl) (cm_C_mono (by decide) hC2) ?_
          have hf2 := hFs_tr hF1 hF2
          obtain ⟨k1, k2, k3, k4, k5, k6, k7, k8, k9⟩ := id hJ2
          refine wk_aload_n xd_e67a4e7e rfl ?_
          refine wk_getR xf_a2e724fb xd_4c70184a ?_
          refine wk_aload_n xd_e69faccb rfl ?_
          refine wk_getI xf_6a36cb46 xd_1ad0f29f ?_
          refine wk_aload_n xd_8a955923 rfl ?_
          refine aw_ldc2 xl_7e74c0a9 rfl xd_51a9b852 ?_
          obtain ⟨xc63_, hCc63_, hxc63_⟩ := xs_120_037aea58 (w := w2) (l1 := (Int64.ofNat 6385252)) hG2
          refine wk_call (kd := 0) (i := 210) xd_ba6a6e15 rfl (wk_cal (as := [.inr (.inr (some 184)), .inr (.inl (Int64.ofNat 6385252))]) (t := [.inl (w2.1 184 41), .inr (.inr (some 199))]) xl_e0444f12 rfl xn_94b640da xc_24159032 rfl rfl xv_bdbd9e17 rfl) (cm_C_mono (by decide) hCc63_) ?_
          refine wk_if xd_24adf342 (t := 68) rfl (fun h60_63 => ?_) (fun h60_63 => ?_)
          · have h60_63 := aw_eq_t (a := ((xc63_).toInt : Int)) (b := (0 : Int)) rfl hb_z h60_63
            refine wk_bipush xd_de9b589a ?_
            refine aw_iastore (i := t2) xf_80f5fdb6 (show ((w2.1 184 41)).toInt = ((t2 : Int) : Int) from k2) (by omega) (by omega) xd_80c60001 ?_
            have hf65_ : hFs w (cm_u1 w2 199 t2 ((Int8.ofInt 22).toInt32)) := fun k i x1 x2 x3 => (hs_u1_ne (by omega)).trans (hf2 k i x1 x2 x3)
            have hG66_ : sv_w sg (cm_u1 w2 199 t2 ((Int8.ofInt 22).toInt32)) := sv_w_u1 hG2 (by rw [xh_5d7eb382 t2 (by omega)]; exact sv_in_top _)
            refine wk_aload_n xd_be3846c5 rfl ?_
            refine wk_dup_r xd_6694be62 ?_
            refine wk_getI xf_6a36cb46 xd_359f29e5 ?_
            refine wk_iconst xd_93defcab ?_
            refine aw_iadd (a := ((t2 : Int) : Int)) (b := (1 : Int)) (e := ((t2 : Int) + 1 : Int)) xd_fae99263 (show (((cm_u1 w2 199 t2 ((Int8.ofInt 22).toInt32)).1 184 41)).toInt = ((t2 : Int) : Int) from k2) (show ((Int32.ofInt 1)).toInt = 1 from by decide) (by omega) (by omega) (by omega) (fun v67_ p67_ => ?_)
            refine wk_putI xf_18a7eb18 (fun ci => wk_fitI ci) xd_cd5db005 ?_
            have hf68_ : hFs w (cm_u1 (cm_u1 w2 199 t2 ((Int8.ofInt 22).toInt32)) 184 41 v67_) := fun k i x1 x2 x3 => (hs_u1_ne (by omega)).trans (hf65_ k i x1 x2 x3)
            have hG69_ : sv_w sg (cm_u1 (cm_u1 w2 199 t2 ((Int8.ofInt 22).toInt32)) 184 41 v67_) := sv_w_u1 hG66_ (by rw [xg_f29d027f]; exact hb_mk (by rw [p67_]; omega) (by rw [p67_]; omega))
            refine wk_aload_n xd_5d2d4d0c rfl ?_
            refine wk_iconst xd_841f9d93 ?_
            refine wk_putI xf_9d4a51d1 (fun _ => aw_fb (.inl (by decide))) xd_73a06743 ?_
            have hf70_ : hFs w (cm_u1 (cm_u1 (cm_u1 w2 199 t2 ((Int8.ofInt 22).toInt32)) 184 41 v67_) 184 43 (Int32.ofInt 0)) := fun k i x1 x2 x3 => (hs_u1_ne (by omega)).trans (hf68_ k i x1 x2 x3)
            have hG71_ : sv_w sg (cm_u1 (cm_u1 (cm_u1 w2 199 t2 ((Int8.ofInt 22).toInt32)) 184 41 v67_) 184 43 (Int32.ofInt 0)) := sv_w_u1 hG69_ (by rw [xg_03c1839c]; exact hb_mk (by rw [(show ((Int32.ofInt 0)).toInt = 0 from by decide)]; omega) (by rw [(show ((Int32.ofInt 0)).toInt = 0 from by decide)]; omega))
            refine wk_aload_n xd_2b94d5a2 rfl ?_
            have hj3 : hJs (cm_u1 (cm_u1 (cm_u1 w2 199 t2 ((Int8.ofInt 22).toInt32)) 184 41 v67_) 184 43 (Int32.ofInt 0)) c2 (t2 + 1) n 0 H2 := hJs_join hJ2 (fun j => rfl) (fun j hj => by rw [hs_u1_ne (by omega), hs_u1_ne (by omega), hs_u1_ne (by omega)]) (by show 21 ≤ ((cm_u1 (cm_u1 (cm_u1 w2 199 t2 ((Int8.ofInt 22).toInt32)) 184 41 v67_) 184 43 (Int32.ofInt 0)).1 199 t2).toInt ∧ ((cm_u1 (cm_u1 (cm_u1 w2 199 t2 ((Int8.ofInt 22).toInt32)) 184 41 v67_) 184 43 (Int32.ofInt 0)).1 199 t2).toInt ≤ 22; rw [hs_u1_ne (by omega), hs_u1_ne (by omega), hs_u1_self]; decide) rfl rfl ((show (((cm_u1 (cm_u1 (cm_u1 w2 199 t2 ((Int8.ofInt 22).toInt32)) 184 41 v67_) 184 43 (Int32.ofInt 0)).1 184 41)).toInt = ((t2 : Int) + 1 : Int) from p67_).trans (by omega)) (show (Int32.ofInt 0).toInt = 0 from by decide)
            obtain ⟨wc72_, hCc72_, hGc72_, hFc72_, hxc72_⟩ := xs_129_f2ad130c (w := (cm_u1 (cm_u1 (cm_u1 w2 199 t2 ((Int8.ofInt 22).toInt32)) 184 41 v67_) 184 43 (Int32.ofInt 0))) hG71_
            refine wk_call (kd := 0) (i := 179) xd_338fde30 rfl (wk_cal (as := [.inr (.inr (some 184))]) (t := []) xl_2811697b rfl xn_00af7311 xc_b2cf5bb1 rfl rfl xv_e7aa8f3d rfl) (cm_C_mono (by decide) hCc72_) ?_
            have hf73_ : hFs w wc72_ := fun k i x1 x2 x3 => ((hFc72_ k i (by omega)).1).trans (hf70_ k i x1 x2 x3)
            have hj4 := hJs_fr hj3 (v := wc72_) (fun j => (hFc72_ 188 j (by omega)).1) (fun j => (hFc72_ 199 j (by omega)).1) (fun i _ _ _ => (hFc72_ 184 i (by omega)).1)
            refine wk_iconst xd_0c5c9777 ?_
            exact wk_ireturn xd_73930c9e xr_b1910b0e wk_z1 ⟨_, _, rfl, hf73_, hGc72_, .inr ⟨by decide, c2, t2 + 1, 0, H2, hj4, .inl ⟨rfl, by omega⟩⟩⟩
          · have h60_63 := aw_eq_f (a := ((xc63_).toInt : Int)) (b := (0 : Int)) rfl hb_z h60_63
            refine wk_bipush xd_ef675851 ?_
            refine wk_goto xd_2812c8e0 (t := 70) rfl ?_
            refine aw_iastore (i := t2) xf_80f5fdb6 (show ((w2.1 184 41)).toInt = ((t2 : Int) : Int) from k2) (by omega) (by omega) xd_80c60001 ?_
            have hf74_ : hFs w (cm_u1 w2 199 t2 ((Int8.ofInt 21).toInt32)) := fun k i x1 x2 x3 => (hs_u1_ne (by omega)).trans (hf2 k i x1 x2 x3)
            have hG75_ : sv_w sg (cm_u1 w2 199 t2 ((Int8.ofInt 21).toInt32)) := sv_w_u1 hG2 (by rw [xh_5d7eb382 t2 (by omega)]; exact sv_in_top _)
            refine wk_aload_n xd_be3846c5 rfl ?_
            refine wk_dup_r xd_6694be62 ?_
            refine wk_getI xf_6a36cb46 xd_359f29e5 ?_
            refine wk_iconst xd_93defcab ?_
            refine aw_iadd (a := ((t2 : Int) : Int)) (b := (1 : Int)) (e := ((t2 : Int) + 1 : Int)) xd_fae99263 (show (((cm_u1 w2 199 t2 ((Int8.ofInt 21).toInt32)).1 184 41)).toInt = ((t2 : Int) : Int) from k2) (show ((Int32.ofInt 1)).toInt = 1 from by decide) (by omega) (by omega) (by omega) (fun v76_ p76_ => ?_)
            refine wk_putI xf_18a7eb18 (fun ci => wk_fitI ci) xd_cd5db005 ?_
            have hf77_ : hFs w (cm_u1 (cm_u1 w2 199 t2 ((Int8.ofInt 21).toInt32)) 184 41 v76_) := fun k i x1 x2 x3 => (hs_u1_ne (by omega)).trans (hf74_ k i x1 x2 x3)
            have hG78_ : sv_w sg (cm_u1 (cm_u1 w2 199 t2 ((Int8.ofInt 21).toInt32)) 184 41 v76_) := sv_w_u1 hG75_ (by rw [xg_f29d027f]; exact hb_mk (by rw [p76_]; omega) (by rw [p76_]; omega))
            refine wk_aload_n xd_5d2d4d0c rfl ?_
            refine wk_iconst xd_841f9d93 ?_
            refine wk_putI xf_9d4a51d1 (fun _ => aw_fb (.inl (by decide))) xd_73a06743 ?_
            have hf79_ : hFs w (cm_u1 (cm_u1 (cm_u1 w2 199 t2 ((Int8.ofInt 21).toInt32)) 184 41 v76_) 184 43 (Int32.ofInt 0)) := fun k i x1 x2 x3 => (hs_u1_ne (by omega)).trans (hf77_ k i x1 x2 x3)
            have hG80_ : sv_w sg (cm_u1 (cm_u1 (cm_u1 w2 199 t2 ((Int8.ofInt 21).toInt32)) 184 41 v76_) 184 43 (Int32.ofInt 0)) := sv_w_u1 hG78_ (by rw [xg_03c1839c]; exact hb_mk (by rw [(show ((Int32.ofInt 0)).toInt = 0 from by decide)]; omega) (by rw [(show ((Int32.ofInt 0)).toInt = 0 from by decide)]; omega))
            refine wk_aload_n xd_2b94d5a2 rfl ?_
            have hj3 : hJs (cm_u1 (cm_u1 (cm_u1 w2 199 t2 ((Int8.ofInt 21).toInt32)) 184 41 v76_) 184 43 (Int32.ofInt 0)) c2 (t2 + 1) n 0 H2 := hJs_join hJ2 (fun j => rfl) (fun j hj => by rw [hs_u1_ne (by omega), hs_u1_ne (by omega), hs_u1_ne (by omega)]) (by show 21 ≤ ((cm_u1 (cm_u1 (cm_u1 w2 199 t2 ((Int8.ofInt 21).toInt32)) 184 41 v76_) 184 43 (Int32.ofInt 0)).1 199 t2).toInt ∧ ((cm_u1 (cm_u1 (cm_u1 w2 199 t2 ((Int8.ofInt 21).toInt32)) 184 41 v76_) 184 43 (Int32.ofInt 0)).1 199 t2).toInt ≤ 22; rw [hs_u1_ne (by omega), hs_u1_ne (by omega), hs_u1_self]; decide) rfl rfl ((show (((cm_u1 (cm_u1 (cm_u1 w2 199 t2 ((Int8.ofInt 21).toInt32)) 184 41 v76_) 184 43 (Int32.ofInt 0)).1 184 41)).toInt = ((t2 : Int) + 1 : Int) from p76_).trans (by omega)) (show (Int32.ofInt 0).toInt = 0 from by decide)
            obtain ⟨wc81_, hCc81_, hGc81_, hFc81_, hxc81_⟩ := xs_129_f2ad130c (w := (cm_u1 (cm_u1 (cm_u1 w2 199 t2 ((Int8.ofInt 21).toInt32)) 184 41 v76_) 184 43 (Int32.ofInt 0))) hG80_
            refine wk_call (kd := 0) (i := 179) xd_338fde30 rfl (wk_cal (as := [.inr (.inr (some 184))]) (t := []) xl_2811697b rfl xn_00af7311 xc_b2cf5bb1 rfl rfl xv_e7aa8f3d rfl) (cm_C_mono (by decide) hCc81_) ?_
            have hf82_ : hFs w wc81_ := fun k i x1 x2 x3 => ((hFc81_ k i (by omega)).1).trans (hf79_ k i x1 x2 x3)
            have hj4 := hJs_fr hj3 (v := wc81_) (fun j => (hFc81_ 188 j (by omega)).1) (fun j => (hFc81_ 199 j (by omega)).1) (fun i _ _ _ => (hFc81_ 184 i (by omega)).1)
            refine wk_iconst xd_0c5c9777 ?_
            exact wk_ireturn xd_73930c9e xr_b1910b0e wk_z1 ⟨_, _, rfl, hf82_, hGc81_, .inr ⟨by decide, c2, t2 + 1, 0, H2, hj4, .inl ⟨rfl, by omega⟩⟩⟩
        · have h32_61 := aw_eq_f (a := ((xc61_).toInt : Int)) (b := (0 : Int)) rfl hb_z h32_61
          refine wk_bipush xd_ea8ed153 ?_
          refine wk_goto xd_6fff3949 (t := 42) rfl ?_
          obtain ⟨w2, c2, t2, H2, hC2, hJ2, hF2, hG2, ht2, hx2⟩ := hjo_ok (w := w1) ((Int8.ofInt 21).toInt32) hJ1 hG1
          refine wk_call (kd := 0) (i := 432) xd_2a10e77b rfl (wk_cal (as := [.inr (.inr (some 184)), .inl ((Int8.ofInt 21).toInt32)]) (t := []) xl_701b531b rfl xn_33df7a20 xc_445d2b36 rfl rfl xv_fe70f5fc rfl) (cm_C_mono (by decide) hC2) ?_
          have hf2 := hFs_tr hF1 hF2
          obtain ⟨k1, k2, k3, k4, k5, k6, k7, k8, k9⟩ := id hJ2
          refine wk_aload_n xd_e67a4e7e rfl ?_
          refine wk_getR xf_a2e724fb xd_4c70184a ?_
          refine wk_aload_n xd_e69faccb rfl ?_
          refine wk_getI xf_6a36cb46 xd_1ad0f29f ?_
          refine wk_aload_n xd_8a955923 rfl ?_
          refine aw_ldc2 xl_7e74c0a9 rfl xd_51a9b852 ?_
          obtain ⟨xc83_, hCc83_, hxc83_⟩ := xs_120_037aea58 (w := w2) (l1 := (Int64.ofNat 6385252)) hG2
          refine wk_call (kd := 0) (i := 210) xd_ba6a6e15 rfl (wk_cal (as := [.inr (.inr (some 184)), .inr (.inl (Int64.ofNat 6385252))]) (t := [.inl (w2.1 184 41), .inr (.inr (some 199))]) xl_e0444f12 rfl xn_94b640da xc_24159032 rfl rfl xv_bdbd9e17 rfl) (cm_C_mono (by decide) hCc83_) ?_
          refine wk_if xd_24adf342 (t := 68) rfl (fun h60_83 => ?_) (fun h60_83 => ?_)
          · have h60_83 := aw_eq_t (a := ((xc83_).toInt : Int)) (b := (0 : Int)) rfl hb_z h60_83
            refine wk_bipush xd_de9b589a ?_
            refine aw_iastore (i := t2) xf_80f5fdb6 (show ((w2.1 184 41)).toInt = ((t2 : Int) : Int) from k2) (by omega) (by omega) xd_80c60001 ?_
            have hf85_ : hFs w (cm_u1 w2 199 t2 ((Int8.ofInt 22).toInt32)) := fun k i x1 x2 x3 => (hs_u1_ne (by omega)).trans (hf2 k i x1 x2 x3)
            have hG86_ : sv_w sg (cm_u1 w2 199 t2 ((Int8.ofInt 22).toInt32)) := sv_w_u1 hG2 (by rw [xh_5d7eb382 t2 (by omega)]; exact sv_in_top _)
            refine wk_aload_n xd_be3846c5 rfl ?_
            refine wk_dup_r xd_6694be62 ?_
            refine wk_getI xf_6a36cb46 xd_359f29e5 ?_
            refine wk_iconst xd_93defcab ?_
            refine aw_iadd (a := ((t2 : Int) : Int)) (b := (1 : Int)) (e := ((t2 : Int) + 1 : Int)) xd_fae99263 (show (((cm_u1 w2 199 t2 ((Int8.ofInt 22).toInt32)).1 184 41)).toInt = ((t2 : Int) : Int) from k2) (show ((Int32.ofInt 1)).toInt = 1 from by decide) (by omega) (by omega) (by omega) (fun v87_ p87_ => ?_)
            refine wk_putI xf_18a7eb18 (fun ci => wk_fitI ci) xd_cd5db005 ?_
            have hf88_ : hFs w (cm_u1 (cm_u1 w2 199 t2 ((Int8.ofInt 22).toInt32)) 184 41 v87_) := fun k i x1 x2 x3 => (hs_u1_ne (by omega)).trans (hf85_ k i x1 x2 x3)
            have hG89_ : sv_w sg (cm_u1 (cm_u1 w2 199 t2 ((Int8.ofInt 22).toInt32)) 184 41 v87_) := sv_w_u1 hG86_ (by rw [xg_f29d027f]; exact hb_mk (by rw [p87_]; omega) (by rw [p87_]; omega))
            refine wk_aload_n xd_5d2d4d0c rfl ?_
            refine wk_iconst xd_841f9d93 ?_
            refine wk_putI xf_9d4a51d1 (fun _ => aw_fb (.inl (by decide))) xd_73a06743 ?_
            have hf90_ : hFs w (cm_u1 (cm_u1 (cm_u1 w2 199 t2 ((Int8.ofInt 22).toInt32)) 184 41 v87_) 184 43 (Int32.ofInt 0)) := fun k i x1 x2 x3 => (hs_u1_ne (by omega)).trans (hf88_ k i x1 x2 x3)
            have hG91_ : sv_w sg (cm_u1 (cm_u1 (cm_u1 w2 199 t2 ((Int8.ofInt 22).toInt32)) 184 41 v87_) 184 43 (Int32.ofInt 0)) := sv_w_u1 hG89_ (by rw [xg_03c1839c]; exact hb_mk (by rw [(show ((Int32.ofInt 0)).toInt = 0 from by decide)]; omega) (by rw [(show ((Int32.ofInt 0)).toInt = 0 from by decide)]; omega))
            refine wk_aload_n xd_2b94d5a2 rfl ?_
            have hj3 : hJs (cm_u1 (cm_u1 (cm_u1 w2 199 t2 ((Int8.ofInt 22).toInt32)) 184 41 v87_) 184 43 (Int32.ofInt 0)) c2 (t2 + 1) n 0 H2 := hJs_join hJ2 (fun j => rfl) (fun j hj => by rw [hs_u1_ne (by omega), hs_u1_ne (by omega), hs_u1_ne (by omega)]) (by show 21 ≤ ((cm_u1 (cm_u1 (cm_u1 w2 199 t2 ((Int8.ofInt 22).toInt32)) 184 41 v87_) 184 43 (Int32.ofInt 0)).1 199 t2).toInt ∧ ((cm_u1 (cm_u1 (cm_u1 w2 199 t2 ((Int8.ofInt 22).toInt32)) 184 41 v87_) 184 43 (Int32.ofInt 0)).1 199 t2).toInt ≤ 22; rw [hs_u1_ne (by omega), hs_u1_ne (by omega), hs_u1_self]; decide) rfl rfl ((show (((cm_u1 (cm_u1 (cm_u1 w2 199 t2 ((Int8.ofInt 22).toInt32)) 184 41 v87_) 184 43 (Int32.ofInt 0)).1 184 41)).toInt = ((t2 : Int) + 1 : Int) from p87_).trans (by omega)) (show (Int32.ofInt 0).toInt = 0 from by decide)
            obtain ⟨wc92_, hCc92_, hGc92_, hFc92_, hxc92_⟩ := xs_129_f2ad130c (w := (cm_u1 (cm_u1 (cm_u1 w2 199 t2 ((Int8.ofInt 22).toInt32)) 184 41 v87_) 184 43 (Int32.ofInt 0))) hG91_
            refine wk_call (kd := 0) (i := 179) xd_338fde30 rfl (wk_cal (as := [.inr (.inr (some 184))]) (t := []) xl_2811697b rfl xn_00af7311 xc_b2cf5bb1 rfl rfl xv_e7aa8f3d rfl) (cm_C_mono (by decide) hCc92_) ?_
            have hf93_ : hFs w wc92_ := fun k i x1 x2 x3 => ((hFc92_ k i (by omega)).1).trans (hf90_ k i x1 x2 x3)
            have hj4 := hJs_fr hj3 (v := wc92_) (fun j => (hFc92_ 188 j (by omega)).1) (fun j => (hFc92_ 199 j (by omega)).1) (fun i _ _ _ => (hFc92_ 184 i (by omega)).1)
            refine wk_iconst xd_0c5c9777 ?_
            exact wk_ireturn xd_73930c9e xr_b1910b0e wk_z1 ⟨_, _, rfl, hf93_, hGc92_, .inr ⟨by decide, c2, t2 + 1, 0, H2, hj4, .inl ⟨rfl, by omega⟩⟩⟩
          · have h60_83 := aw_eq_f (a := ((xc83_).toInt : Int)) (b := (0 : Int)) rfl hb_z h60_83
            refine wk_bipush xd_ef675851 ?_
            refine wk_goto xd_2812c8e0 (t := 70) rfl ?_
            refine aw_iastore (i := t2) xf_80f5fdb6 (show ((w2.1 184 41)).toInt = ((t2 : Int) : Int) from k2) (by omega) (by omega) xd_80c60001 ?_
            have hf94_ : hFs w (cm_u1 w2 199 t2 ((Int8.ofInt 21).toInt32)) := fun k i x1 x2 x3 => (hs_u1_ne (by omega)).trans (hf2 k i x1 x2 x3)
            have hG95_ : sv_w sg (cm_u1 w2 199 t2 ((Int8.ofInt 21).toInt32)) := sv_w_u1 hG2 (by rw [xh_5d7eb382 t2 (by omega)]; exact sv_in_top _)
            refine wk_aload_n xd_be3846c5 rfl ?_
            refine wk_dup_r xd_6694be62 ?_
            refine wk_getI xf_6a36cb46 xd_359f29e5 ?_
            refine wk_iconst xd_93defcab ?_
            refine aw_iadd (a := ((t2 : Int) : Int)) (b := (1 : Int)) (e := ((t2 : Int) + 1 : Int)) xd_fae99263 (show (((cm_u1 w2 199 t2 ((Int8.ofInt 21).toInt32)).1 184 41)).toInt = ((t2 : Int) : Int) from k2) (show ((Int32.ofInt 1)).toInt = 1 from by decide) (by omega) (by omega) (by omega) (fun v96_ p96_ => ?_)
            refine wk_putI xf_18a7eb18 (fun ci => wk_fitI ci) xd_cd5db005 ?_
            have hf97_ : hFs w (cm_u1 (cm_u1 w2 199 t2 ((Int8.ofInt 21).toInt32)) 184 41 v96_) := fun k i x1 x2 x3 => (hs_u1_ne (by omega)).trans (hf94_ k i x1 x2 x3)
            have hG98_ : sv_w sg (cm_u1 (cm_u1 w2 199 t2 ((Int8.ofInt 21).toInt32)) 184 41 v96_) := sv_w_u1 hG95_ (by rw [xg_f29d027f]; exact hb_mk (by rw [p96_]; omega) (by rw [p96_]; omega))
            refine wk_aload_n xd_5d2d4d0c rfl ?_
            refine wk_iconst xd_841f9d93 ?_
            refine wk_putI xf_9d4a51d1 (fun _ => aw_fb (.inl (by decide))) xd_73a06743 ?_
            have hf99_ : hFs w (cm_u1 (cm_u1 (cm_u1 w2 199 t2 ((Int8.ofInt 21).toInt32)) 184 41 v96_) 184 43 (Int32.ofInt 0)) := fun k i x1 x2 x3 => (hs_u1_ne (by omega)).trans (hf97_ k i x1 x2 x3)
            have hG100_ : sv_w sg (cm_u1 (cm_u1 (cm_u1 w2 199 t2 ((Int8.ofInt 21).toInt32)) 184 41 v96_) 184 43 (Int32.ofInt 0)) := sv_w_u1 hG98_ (by rw [xg_03c1839c]; exact hb_mk (by rw [(show ((Int32.ofInt 0)).toInt = 0 from by decide)]; omega) (by rw [(show ((Int32.ofInt 0)).toInt = 0 from by decide)]; omega))
            refine wk_aload_n xd_2b94d5a2 rfl ?_
            have hj3 : hJs (cm_u1 (cm_u1 (cm_u1 w2 199 t2 ((Int8.ofInt 21).toInt32)) 184 41 v96_) 184 43 (Int32.ofInt 0)) c2 (t2 + 1) n 0 H2 := hJs_join hJ2 (fun j => rfl) (fun j hj => by rw [hs_u1_ne (by omega), hs_u1_ne (by omega), hs_u1_ne (by omega)]) (by show 21 ≤ ((cm_u1 (cm_u1 (cm_u1 w2 199 t2 ((Int8.ofInt 21).toInt32)) 184 41 v96_) 184 43 (Int32.ofInt 0)).1 199 t2).toInt ∧ ((cm_u1 (cm_u1 (cm_u1 w2 199 t2 ((Int8.ofInt 21).toInt32)) 184 41 v96_) 184 43 (Int32.ofInt 0)).1 199 t2).toInt ≤ 22; rw [hs_u1_ne (by omega), hs_u1_ne (by omega), hs_u1_self]; decide) rfl rfl ((show (((cm_u1 (cm_u1 (cm_u1 w2 199 t2 ((Int8.ofInt 21).toInt32)) 184 41 v96_) 184 43 (Int32.ofInt 0)).1 184 41)).toInt = ((t2 : Int) + 1 : Int) from p96_).trans (by omega)) (show (Int32.ofInt 0).toInt = 0 from by decide)
            obtain ⟨wc101_, hCc101_, hGc101_, hFc101_, hxc101_⟩ := xs_129_f2ad130c (w := (cm_u1 (cm_u1 (cm_u1 w2 199 t2 ((Int8.ofInt 21).toInt32)) 184 41 v96_) 184 43 (Int32.ofInt 0))) hG100_
            refine wk_call (kd := 0) (i := 179) xd_338fde30 rfl (wk_cal (as := [.inr (.inr (some 184))]) (t := []) xl_2811697b rfl xn_00af7311 xc_b2cf5bb1 rfl rfl xv_e7aa8f3d rfl) (cm_C_mono (by decide) hCc101_) ?_
            have hf102_ : hFs w wc101_ := fun k i x1 x2 x3 => ((hFc101_ k i (by omega)).1).trans (hf99_ k i x1 x2 x3)
            have hj4 := hJs_fr hj3 (v := wc101_) (fun j => (hFc101_ 188 j (by omega)).1) (fun j => (hFc101_ 199 j (by omega)).1) (fun i _ _ _ => (hFc101_ 184 i (by omega)).1)
            refine wk_iconst xd_0c5c9777 ?_
            exact wk_ireturn xd_73930c9e xr_b1910b0e wk_z1 ⟨_, _, rfl, hf102_, hGc101_, .inr ⟨by decide, c2, t2 + 1, 0, H2, hj4, .inl ⟨rfl, by omega⟩⟩⟩
  obtain ⟨o, hC, x, w', rfl, a⟩ := h
  exact ⟨x, w', hC, a⟩
theorem hop_38 {w : cm_W} {c t n H : Nat} (x1 x2 x3 : Int32) (hJ : hJs w c t n 0 H) (hG : sv_w sg w) (h1 : 0 ≤ x1.toInt ∧ x1.toInt ≤ 1) (h2 : 0 ≤ x2.toInt ∧ x2.toInt ≤ 1) (h3 : -1 ≤ x3.toInt ∧ x3.toInt ≤ 7) (h4 : x1.toInt ≠ 0 ∨ x2.toInt ≠ 0 ∨ 0 ≤ x3.toInt) : cm_X (cm_C 2) 134 38 [some (.inr (.inr (some 184))), some (.inl x1), some (.inl x2), some (.inl x3), none] [] w (fun o : cm_O => ∃ x w', o = (some (.inl x), w') ∧ hFs w w' ∧ sv_w sg w' ∧ (x.toInt = 0 ∨ (x.toInt = 1 ∧ ∃ c' t' b' H', hJs w' c' t' (n + 1) b' H'))) := by
  obtain ⟨k1, k2, k3, k4, k5, k6, k7, k8, k9⟩ := id hJ
  have hF0 : hFs w w := fun _ _ _ _ _ => rfl
  refine wk_aload_n xd_3f20afd1 rfl ?_
  refine wk_getI xf_4633a7bb xd_810317bd ?_
  refine wk_bipush xd_e39b8983 ?_
  refine wk_icmp xd_41784522 (t := 56) rfl (fun h44_0 => ?_) (fun h44_0 => ?_)
  · have h44_0 := aw_eq_t (a := ((n : Int) : Int)) (b := (20 : Int)) (show ((w.1 184 40)).toInt = ((n : Int) : Int) from k3) (show (((Int8.ofInt 20).toInt32)).toInt = 20 from by decide) h44_0
    refine wk_aload_n xd_626eccdd rfl ?_
    refine wk_iconst xd_a948fe75 ?_
    obtain ⟨xc2_, wc2_, hCc2_, hGc2_, hFc2_, hxc2_⟩ := xs_94_689db261 (w := w) (a1 := (Int32.ofInt 4)) hG
    refine wk_call (kd := 0) (i := 176) xd_888bcf38 rfl (wk_cal (as := [.inr (.inr (some 184)), .inl (Int32.ofInt 4)]) (t := []) xl_f124abec rfl xn_f63023b8 xc_1907b494 rfl rfl xv_a1095a1b rfl) (cm_C_mono (by decide) hCc2_) ?_
    have hf3_ : hFs w wc2_ := fun k i x1 x2 x3 => ((hFc2_ k i (by omega)).1).trans (hF0 k i x1 x2 x3)
    exact wk_ireturn xd_0a0ebe93 xr_d37bfb88 (aw_bit (by omega) (by omega)) ⟨_, _, rfl, hf3_, hGc2_, .inl (by omega)⟩
  · have h44_0 := aw_eq_f (a := ((n : Int) : Int)) (b := (20 : Int)) (show ((w.1 184 40)).toInt = ((n : Int) : Int) from k3) (show (((Int8.ofInt 20).toInt32)).toInt = 20 from by decide) h44_0
    have hn : n < 20 := by omega
    refine wk_aload_n xd_7838432e rfl ?_
    refine wk_getI xf_db488d2b xd_c7df23c2 ?_
    refine wk_bipush xd_fe1716ce ?_
    refine wk_icmp xd_39ca0028 (t := 62) rfl (fun h53_3 => ?_) (fun h53_3 => ?_)
    · have h53_3 := aw_le_t (a := ((w.1 184 42).toInt : Int)) (b := (8 : Int)) rfl (show (((Int8.ofInt 8).toInt32)).toInt = 8 from by decide) h53_3
      refine wk_aload_n xd_3a2cc466 rfl ?_
      refine wk_dup_r xd_74bb42e5 ?_
      refine wk_getI xf_4633a7bb xd_166e7a4c ?_
      refine wk_iconst xd_174d4838 ?_
      refine aw_iadd (a := ((n : Int) : Int)) (b := (1 : Int)) (e := ((n : Int) + 1 : Int)) xd_900ab995 (show ((w.1 184 40)).toInt = ((n : Int) : Int) from k3) (show ((Int32.ofInt 1)).toInt = 1 from by decide) (by omega) (by omega) (by omega) (fun v5_ p5_ => ?_)
      refine wk_putI xf_34a287e5 (fun ci => wk_fitI ci) xd_d1723e1d ?_
      have hf6_ : hFs w (cm_u1 w 184 40 v5_) := fun k i x1 x2 x3 => (hs_u1_ne (by omega)).trans (hF0 k i x1 x2 x3)
      have hG7_ : sv_w sg (cm_u1 w 184 40 v5_) := sv_w_u1 hG (by rw [xg_ff894e00]; exact sv_in_top _)
      refine wk_aload_n xd_bb09a141 rfl ?_
      obtain ⟨wN, hCN, hGN, hFN, hxN⟩ := xs_129_f2ad130c (w := (cm_u1 w 184 40 v5_)) hG7_
      refine wk_call (kd := 0) (i := 179) xd_56092a07 rfl (wk_cal (as := [.inr (.inr (some 184))]) (t := []) xl_b037c8bc rfl xn_00af7311 xc_b2cf5bb1 rfl rfl xv_e7aa8f3d rfl) (cm_C_mono (by decide) hCN) ?_
      have hf8_ : hFs w wN := fun k i x1 x2 x3 => ((hFN k i (by omega)).1).trans (hf6_ k i x1 x2 x3)
      have n40 : (wN.1 184 40).toInt = ((n : Int) + 1 : Int) := by rw [(hFN 184 40 (by omega)).1]; exact (show (((cm_u1 w 184 40 v5_).1 184 40)).toInt = ((n : Int) + 1 : Int) from p5_)
      have n41 : (wN.1 184 41).toInt = ((t : Int) : Int) := by rw [(hFN 184 41 (by omega)).1]; exact k2
      have n41e : wN.1 184 41 = w.1 184 41 := (hFN 184 41 (by omega)).1
      have n39 : wN.1 184 39 = w.1 184 39 := (hFN 184 39 (by omega)).1
      have n43 : wN.1 184 43 = w.1 184 43 := (hFN 184 43 (by omega)).1
      have n188 : ∀ j, wN.1 188 j = w.1 188 j := fun j => (hFN 188 j (by omega)).1
      have n199 : ∀ j, wN.1 199 j = w.1 199 j := fun j => (hFN 199 j (by omega)).1
      have b0 := hGN 186 0
      rw [xg_955c97cf] at b0
      have b0 := hb_in b0
      have b2 := hGN 186 2
      rw [xg_96376df5] at b2
      have b2 := hb_in b2
      refine wk_iload_n xd_dc36fa0f rfl ?_
      refine wk_if xd_8ac39bcf (t := 84) rfl (fun h77_8 => ?_) (fun h77_8 => ?_)
      · have h77_8 := aw_ne_t (a := ((x1).toInt : Int)) (b := (0 : Int)) rfl hb_z h77_8
        refine wk_aload_n xd_b5d6d8f2 rfl ?_
        refine wk_getR xf_1029fb0d xd_524c8c8d ?_
        refine wk_aload_n xd_b5333a47 rfl ?_
        refine wk_getI xf_10ed4a63 xd_3121e48a ?_
        refine wk_iload_n xd_be5a3572 rfl ?_
        refine wk_if xd_9227b506 (t := 101) rfl (fun h93_9 => ?_) (fun h93_9 => ?_)
        · have h93_9 := aw_eq_t (a := ((x1).toInt : Int)) (b := (0 : Int)) rfl hb_z h93_9
          refine wk_bipush xd_6692718c ?_
          refine aw_iastore (i := t) xf_80f5fdb6 (show ((wN.1 184 41)).toInt = ((t : Int) : Int) from n41) (by omega) (by omega) xd_d0bd0601 ?_
          have hf11_ : hFs w (cm_u1 wN 199 t ((Int8.ofInt 23).toInt32)) := fun k i x1 x2 x3 => (hs_u1_ne (by omega)).trans (hf8_ k i x1 x2 x3)
          have hG12_ : sv_w sg (cm_u1 wN 199 t ((Int8.ofInt 23).toInt32)) := sv_w_u1 hGN (by rw [xh_5d7eb382 t (by omega)]; exact sv_in_top _)
          refine wk_aload_n xd_ba91c1f1 rfl ?_
          refine wk_dup_r xd_6833fd8c ?_
          refine wk_getI xf_10ed4a63 xd_cd35716d ?_
          refine wk_iconst xd_766c32ad ?_
          refine aw_iadd (a := ((t : Int) : Int)) (b := (1 : Int)) (e := ((t : Int) + 1 : Int)) xd_6ab77a07 (show (((cm_u1 wN 199 t ((Int8.ofInt 23).toInt32)).1 184 41)).toInt = ((t : Int) : Int) from n41) (show ((Int32.ofInt 1)).toInt = 1 from by decide) (by omega) (by omega) (by omega) (fun v13_ p13_ => ?_)
          refine wk_putI xf_627c6a3d (fun ci => wk_fitI ci) xd_24c648ae ?_
          have hf14_ : hFs w (cm_u1 (cm_u1 wN 199 t ((Int8.ofInt 23).toInt32)) 184 41 v13_) := fun k i x1 x2 x3 => (hs_u1_ne (by omega)).trans (hf11_ k i x1 x2 x3)
          have hG15_ : sv_w sg (cm_u1 (cm_u1 wN 199 t ((Int8.ofInt 23).toInt32)) 184 41 v13_) := sv_w_u1 hG12_ (by rw [xg_f29d027f]; exact hb_mk (by rw [p13_]; omega) (by rw [p13_]; omega))
          refine wk_aload_n xd_3bb4a4d6 rfl ?_
          refine wk_dup_r xd_87614b6d ?_
          refine wk_getI xf_db488d2b xd_1199b63c ?_
          refine wk_iconst xd_ed1fd879 ?_
          refine wk_iadd xd_c9e1fcae ?_
          refine wk_putI xf_a9d9ad75 (fun ci => wk_fitI ci) xd_2572b97d ?_
          have hf16_ : hFs w (cm_u1 (cm_u1 (cm_u1 wN 199 t ((Int8.ofInt 23).toInt32)) 184 41 v13_) 184 42 (((cm_u1 (cm_u1 wN 199 t ((Int8.ofInt 23).toInt32)) 184 41 v13_).1 184 42) + (Int32.ofInt 1))) := fun k i x1 x2 x3 => (hs_u1_ne (by omega)).trans (hf14_ k i x1 x2 x3)
          have hG17_ : sv_w sg (cm_u1 (cm_u1 (cm_u1 wN 199 t ((Int8.ofInt 23).toInt32)) 184 41 v13_) 184 42 (((cm_u1 (cm_u1 wN 199 t ((Int8.ofInt 23).toInt32)) 184 41 v13_).1 184 42) + (Int32.ofInt 1))) := sv_w_u1 hG15_ (by rw [xg_fb7c9e3d]; exact sv_in_top _)
          refine wk_iconst xd_69303084 ?_
          have hj4 : hJs (cm_u1 (cm_u1 (cm_u1 wN 199 t ((Int8.ofInt 23).toInt32)) 184 41 v13_) 184 42 (((cm_u1 (cm_u1 wN 199 t ((Int8.ofInt 23).toInt32)) 184 41 v13_).1 184 42) + (Int32.ofInt 1))) c (t + 1) (n + 1) 0 H := hJs_open hJ hn (fun j => n188 j) (fun j hj => by rw [hs_u1_ne (by omega), hs_u1_ne (by omega), hs_u1_ne (by omega)]; exact n199 j) (by show ((cm_u1 (cm_u1 (cm_u1 wN 199 t ((Int8.ofInt 23).toInt32)) 184 41 v13_) 184 42 (((cm_u1 (cm_u1 wN 199 t ((Int8.ofInt 23).toInt32)) 184 41 v13_).1 184 42) + (Int32.ofInt 1))).1 199 t).toInt = 20 ∨ ((cm_u1 (cm_u1 (cm_u1 wN 199 t ((Int8.ofInt 23).toInt32)) 184 41 v13_) 184 42 (((cm_u1 (cm_u1 wN 199 t ((Int8.ofInt 23).toInt32)) 184 41 v13_).1 184 42) + (Int32.ofInt 1))).1 199 t).toInt = 23; rw [hs_u1_ne (by omega), hs_u1_ne (by omega), hs_u1_self]; decide) n39 n40 ((show (((cm_u1 (cm_u1 (cm_u1 wN 199 t ((Int8.ofInt 23).toInt32)) 184 41 v13_) 184 42 (((cm_u1 (cm_u1 wN 199 t ((Int8.ofInt 23).toInt32)) 184 41 v13_).1 184 42) + (Int32.ofInt 1))).1 184 41)).toInt = ((t : Int) + 1 : Int) from p13_).trans (by omega)) n43
          exact wk_ireturn xd_afed39c6 xr_d37bfb88 wk_z1 ⟨_, _, rfl, hf16_, hG17_, .inr ⟨by decide, _, _, _, _, hj4⟩⟩
        · have h93_9 := aw_eq_f (a := ((x1).toInt : Int)) (b := (0 : Int)) rfl hb_z h93_9
          refine wk_bipush xd_d9e9efd6 ?_
          refine wk_goto xd_df496744 (t := 103) rfl ?_
          refine aw_iastore (i := t) xf_80f5fdb6 (show ((wN.1 184 41)).toInt = ((t : Int) : Int) from n41) (by omega) (by omega) xd_d0bd0601 ?_
          have hf18_ : hFs w (cm_u1 wN 199 t ((Int8.ofInt 20).toInt32)) := fun k i x1 x2 x3 => (hs_u1_ne (by omega)).trans (hf8_ k i x1 x2 x3)
          have hG19_ : sv_w sg (cm_u1 wN 199 t ((Int8.ofInt 20).toInt32)) := sv_w_u1 hGN (by rw [xh_5d7eb382 t (by omega)]; exact sv_in_top _)
          refine wk_aload_n xd_ba91c1f1 rfl ?_
          refine wk_dup_r xd_6833fd8c ?_
          refine wk_getI xf_10ed4a63 xd_cd35716d ?_
          refine wk_iconst xd_766c32ad ?_
          refine aw_iadd (a := ((t : Int) : Int)) (b := (1 : Int)) (e := ((t : Int) + 1 : Int)) xd_6ab77a07 (show (((cm_u1 wN 199 t ((Int8.ofInt 20).toInt32)).1 184 41)).toInt = ((t : Int) : Int) from n41) (show ((Int32.ofInt 1)).toInt = 1 from by decide) (by omega) (by omega) (by omega) (fun v20_ p20_ => ?_)
          refine wk_putI xf_627c6a3d (fun ci => wk_fitI ci) xd_24c648ae ?_
          have hf21_ : hFs w (cm_u1 (cm_u1 wN 199 t ((Int8.ofInt 20).toInt32)) 184 41 v20_) := fun k i x1 x2 x3 => (hs_u1_ne (by omega)).trans (hf18_ k i x1 x2 x3)
          have hG22_ : sv_w sg (cm_u1 (cm_u1 wN 199 t ((Int8.ofInt 20).toInt32)) 184 41 v20_) := sv_w_u1 hG19_ (by rw [xg_f29d027f]; exact hb_mk (by rw [p20_]; omega) (by rw [p20_]; omega))
          refine wk_aload_n xd_3bb4a4d6 rfl ?_
          refine wk_dup_r xd_87614b6d ?_
          refine wk_getI xf_db488d2b xd_1199b63c ?_
          refine wk_iconst xd_ed1fd879 ?_
          refine wk_iadd xd_c9e1fcae ?_
          refine wk_putI xf_a9d9ad75 (fun ci => wk_fitI ci) xd_2572b97d ?_
          have hf23_ : hFs w (cm_u1 (cm_u1 (cm_u1 wN 199 t ((Int8.ofInt 20).toInt32)) 184 41 v20_) 184 42 (((cm_u1 (cm_u1 wN 199 t ((Int8.ofInt 20).toInt32)) 184 41 v20_).1 184 42) + (Int32.ofInt 1))) := fun k i x1 x2 x3 => (hs_u1_ne (by omega)).trans (hf21_ k i x1 x2 x3)
          have hG24_ : sv_w sg (cm_u1 (cm_u1 (cm_u1 wN 199 t ((Int8.ofInt 20).toInt32)) 184 41 v20_) 184 42 (((cm_u1 (cm_u1 wN 199 t ((Int8.ofInt 20).toInt32)) 184 41 v20_).1 184 42) + (Int32.ofInt 1))) := sv_w_u1 hG22_ (by rw [xg_fb7c9e3d]; exact sv_in_top _)
          refine wk_iconst xd_69303084 ?_
          have hj4 : hJs (cm_u1 (cm_u1 (cm_u1 wN 199 t ((Int8.ofInt 20).toInt32)) 184 41 v20_) 184 42 (((cm_u1 (cm_u1 wN 199 t ((Int8.ofInt 20).toInt32)) 184 41 v20_).1 184 42) + (Int32.ofInt 1))) c (t + 1) (n + 1) 0 H := hJs_open hJ hn (fun j => n188 j) (fun j hj => by rw [hs_u1_ne (by omega), hs_u1_ne (by omega), hs_u1_ne (by omega)]; exact n199 j) (by show ((cm_u1 (cm_u1 (cm_u1 wN 199 t ((Int8.ofInt 20).toInt32)) 184 41 v20_) 184 42 (((cm_u1 (cm_u1 wN 199 t ((Int8.ofInt 20).toInt32)) 184 41 v20_).1 184 42) + (Int32.ofInt 1))).1 199 t).toInt = 20 ∨ ((cm_u1 (cm_u1 (cm_u1 wN 199 t ((Int8.ofInt 20).toInt32)) 184 41 v20_) 184 42 (((cm_u1 (cm_u1 wN 199 t ((Int8.ofInt 20).toInt32)) 184 41 v20_).1 184 42) + (Int32.ofInt 1))).1 199 t).toInt = 23; rw [hs_u1_ne (by omega), hs_u1_ne (by omega), hs_u1_self]; decide) n39 n40 ((show (((cm_u1 (cm_u1 (cm_u1 wN 199 t ((Int8.ofInt 20).toInt32)) 184 41 v20_) 184 42 (((cm_u1 (cm_u1 wN 199 t ((Int8.ofInt 20).toInt32)) 184 41 v20_).1 184 42) + (Int32.ofInt 1))).1 184 41)).toInt = ((t : Int) + 1 : Int) from p20_).trans (by omega)) n43
          exact wk_ireturn xd_afed39c6 xr_d37bfb88 wk_z1 ⟨_, _, rfl, hf23_, hG24_, .inr ⟨by decide, _, _, _, _, hj4⟩⟩
      · have h77_8 := aw_ne_f (a := ((x1).toInt : Int)) (b := (0 : Int)) rfl hb_z h77_8
        refine wk_iload_n xd_9549f96c rfl ?_
        refine wk_if xd_5b45533c (t := 126) rfl (fun h81_24 => ?_) (fun h81_24 => ?_)
        · have h81_24 := aw_eq_t (a := ((x2).toInt : Int)) (b := (0 : Int)) rfl hb_z h81_24
          refine wk_aload_n xd_8e3cde17 rfl ?_
          refine wk_iconst xd_50489dc4 ?_
          refine wk_putI xf_e791d0f4 (fun _ => aw_fb (.inr (by decide))) xd_2cb26948 ?_
          have hf26_ : hFs w (cm_u1 wN 184 43 (Int32.ofInt 1)) := fun k i x1 x2 x3 => (hs_u1_ne (by omega)).trans (hf8_ k i x1 x2 x3)
          have hG27_ : sv_w sg (cm_u1 wN 184 43 (Int32.ofInt 1)) := sv_w_u1 hGN (by rw [xg_03c1839c]; exact hb_mk (by rw [(show ((Int32.ofInt 1)).toInt = 1 from by decide)]; omega) (by rw [(show ((Int32.ofInt 1)).toInt = 1 from by decide)]; omega))
          refine wk_iload_n xd_64038a23 rfl ?_
          refine wk_iconst xd_c712fa00 ?_
          refine wk_icmp xd_57308876 (t := 145) rfl (fun h133_27 => ?_) (fun h133_27 => ?_)
          · have h133_27 := aw_ge_t (a := ((x3).toInt : Int)) (b := (2 : Int)) rfl (show ((Int32.ofInt 2)).toInt = 2 from by decide) h133_27
            refine wk_iload_n xd_55471cc7 rfl ?_
            refine wk_iconst xd_624a040e ?_
            refine wk_icmp xd_b750c209 (t := 201) rfl (fun h147_28 => ?_) (fun h147_28 => ?_)
            · have h147_28 := aw_ge_t (a := ((x3).toInt : Int)) (b := (4 : Int)) rfl (show ((Int32.ofInt 4)).toInt = 4 from by decide) h147_28
              refine wk_aload_n xd_14533ce5 rfl ?_
              refine wk_getI xf_5498bc9d xd_2cd68d25 ?_
              refine wk_iconst xd_b1507de5 ?_
              refine wk_icmp xd_dc6c714e (t := 227) rfl (fun h206_29 => ?_) (fun h206_29 => ?_)
              · have h206_29 := aw_ne_t (a := ((wN.1 184 11).toInt : Int)) (b := (3 : Int)) rfl (show ((Int32.ofInt 3)).toInt = 3 from by decide) h206_29
                refine wk_aload_n xd_20a28290 rfl ?_
                refine wk_iconst xd_d4cc2cac ?_
                obtain ⟨xc31_, wc31_, hCc31_, hGc31_, hFc31_, hxc31_⟩ := xs_94_689db261 (w := (cm_u1 wN 184 43 (Int32.ofInt 1))) (a1 := (Int32.ofInt 1)) hG27_
                refine wk_call (kd := 0) (i := 176) xd_6a3ec3c6 rfl (wk_cal (as := [.inr (.inr (some 184)), .inl (Int32.ofInt 1)]) (t := []) xl_f124abec rfl xn_f63023b8 xc_1907b494 rfl rfl xv_a1095a1b rfl) (cm_C_mono (by decide) hCc31_) ?_
                have hf32_ : hFs w wc31_ := fun k i x1 x2 x3 => ((hFc31_ k i (by omega)).1).trans (hf26_ k i x1 x2 x3)
                exact wk_ireturn xd_a7c7e263 xr_d37bfb88 (aw_bit (by omega) (by omega)) ⟨_, _, rfl, hf32_, hGc31_, .inl (by omega)⟩
              · have h206_29 := aw_ne_f (a := ((wN.1 184 11).toInt : Int)) (b := (3 : Int)) rfl (show ((Int32.ofInt 3)).toInt = 3 from by decide) h206_29
                refine wk_aload_n xd_14ea7fc3 rfl ?_
                refine wk_getI xf_5837aabb xd_d184afa5 ?_
                refine wk_bipush xd_e3fd49d7 ?_
                refine wk_icmp xd_e266be00 (t := 227) rfl (fun h215_32 => ?_) (fun h215_32 => ?_)
                · have h215_32 := aw_lt_t (a := ((wN.1 184 14).toInt : Int)) (b := (60 : Int)) rfl (show (((Int8.ofInt 60).toInt32)).toInt = 60 from by decide) h215_32
                  refine wk_aload_n xd_20a28290 rfl ?_
                  refine wk_iconst xd_d4cc2cac ?_
                  obtain ⟨xc34_, wc34_, hCc34_, hGc34_, hFc34_, hxc34_⟩ := xs_94_689db261 (w := (cm_u1 wN 184 43 (Int32.ofInt 1))) (a1 := (Int32.ofInt 1)) hG27_
                  refine wk_call (kd := 0) (i := 176) xd_6a3ec3c6 rfl (wk_cal (as := [.inr (.inr (some 184)), .inl (Int32.ofInt 1)]) (t := []) xl_f124abec rfl xn_f63023b8 xc_1907b494 rfl rfl xv_a1095a1b rfl) (cm_C_mono (by decide) hCc34_) ?_
                  have hf35_ : hFs w wc34_ := fun k i x1 x2 x3 => ((hFc34_ k i (by omega)).1).trans (hf26_ k i x1 x2 x3)
                  exact wk_ireturn xd_a7c7e263 xr_d37bfb88 (aw_bit (by omega) (by omega)) ⟨_, _, rfl, hf35_, hGc34_, .inl (by omega)⟩
                · have h215_32 := aw_lt_f (a := ((wN.1 184 14).toInt : Int)) (b := (60 : Int)) rfl (show (((Int8.ofInt 60).toInt32)).toInt = 60 from by decide) h215_32
                  refine wk_aload_n xd_0ebcf030 rfl ?_
                  refine wk_getI xf_5837aabb xd_63b0248e ?_
                  refine wk_bipush xd_5a50594b ?_
                  refine wk_icmp xd_6974c53b (t := 233) rfl (fun h224_35 => ?_) (fun h224_35 => ?_)
                  · have h224_35 := aw_le_t (a := ((wN.1 184 14).toInt : Int)) (b := (62 : Int)) rfl (show (((Int8.ofInt 62).toInt32)).toInt = 62 from by decide) h224_35
                    refine wk_aload_n xd_a1db4624 rfl ?_
                    refine wk_getI xf_5837aabb xd_26080ff9 ?_
                    refine wk_istore xd_1b283ff8 (by rw [xm_48b35298]; rfl) rfl ?_
                    refine wk_aload_n xd_4cf4d6eb rfl ?_
                    obtain ⟨wM, hCM, hGM, hFM, hxM⟩ := xs_129_f2ad130c (w := (cm_u1 wN 184 43 (Int32.ofInt 1))) hG27_
                    refine wk_call (kd := 0) (i := 179) xd_d8f9ed71 rfl (wk_cal (as := [.inr (.inr (some 184))]) (t := []) xl_b037c8bc rfl xn_00af7311 xc_b2cf5bb1 rfl rfl xv_e7aa8f3d rfl) (cm_C_mono (by decide) hCM) ?_
                    have hf37_ : hFs w wM := fun k i x1 x2 x3 => ((hFM k i (by omega)).1).trans (hf26_ k i x1 x2 x3)
                    have l39 : wM.1 184 39 = w.1 184 39 := ((hFM 184 39 (by omega)).1).trans n39
                    have l40 : (wM.1 184 40).toInt = ((n : Int) + 1 : Int) := by rw [(hFM 184 40 (by omega)).1]; exact n40
                    have l41 : wM.1 184 41 = w.1 184 41 := ((hFM 184 41 (by omega)).1).trans n41e
                    have l43 : (wM.1 184 43).toInt = 1 := by rw [(hFM 184 43 (by omega)).1]; show (Int32.ofInt 1).toInt = 1; decide
                    have l188 : ∀ j, wM.1 188 j = w.1 188 j := fun j => ((hFM 188 j (by omega)).1).trans (n188 j)
                    have l199 : ∀ j, wM.1 199 j = w.1 199 j := fun j => ((hFM 199 j (by omega)).1).trans (n199 j)
                    refine wk_aload_n xd_90c37153 rfl ?_
                    refine wk_getI xf_5498bc9d xd_72493bd1 ?_
                    refine wk_iconst xd_a23c3c46 ?_
                    refine wk_icmp xd_43d5d54c (t := 257) rfl (fun h248_37 => ?_) (fun h248_37 => ?_)
                    · have h248_37 := aw_eq_t (a := ((wM.1 184 11).toInt : Int)) (b := (2 : Int)) rfl (show ((Int32.ofInt 2)).toInt = 2 from by decide) h248_37
                      refine wk_aload_n xd_11bab5e7 rfl ?_
                      refine wk_iload_n xd_7a19c7d2 rfl ?_
                      refine wk_iload xd_caa98dd3 rfl ?_
                      refine wk_aload_n xd_a46e6eb5 rfl ?_
                      refine wk_getI xf_5837aabb xd_161ba24c ?_
                      have hc_ : (wM.1 184 39).toInt = (c : Int) := by rw [l39]; exact k1
                      have hj3 := hJs_leaf (v := wM) (a := x3) (b := ((cm_u1 wN 184 43 (Int32.ofInt 1)).1 184 14)) (m := (wM.1 184 14)) hJ hn l188 l199 l39 l40 l41 l43 ⟨by omega, by omega⟩ (fun hh => by omega)
                      refine wk_call (kd := 0) (i := 413) xd_1b957fea rfl (wk_cal (as := [.inr (.inr (some 184)), .inl x3, .inl ((cm_u1 wN 184 43 (Int32.ofInt 1)).1 184 14), .inl (wM.1 184 14)]) (t := []) xl_c3f3b8fa rfl xn_2844c07f xc_82edc90f rfl rfl xv_6dbeb463 rfl) (cm_C_mono (by decide) (hcd_ok x3 ((cm_u1 wN 184 43 (Int32.ofInt 1)).1 184 14) (wM.1 184 14) hc_ (by omega))) ?_
                      have hf39_ := hFs_cd (c := c) (a := x3) (b := ((cm_u1 wN 184 43 (Int32.ofInt 1)).1 184 14)) (n := (wM.1 184 14)) hf37_
                      refine wk_aload_n xd_3fa4c747 rfl ?_
                      obtain ⟨wE, hCE, hGE, hFE, hxE⟩ := xs_129_f2ad130c (w := (hcd wM c x3 ((cm_u1 wN 184 43 (Int32.ofInt 1)).1 184 14) (wM.1 184 14))) (hcd_G hc_ (by omega) hGM)
                      refine wk_call (kd := 0) (i := 179) xd_99e44e3d rfl (wk_cal (as := [.inr (.inr (some 184))]) (t := []) xl_b037c8bc rfl xn_00af7311 xc_b2cf5bb1 rfl rfl xv_e7aa8f3d rfl) (cm_C_mono (by decide) hCE) ?_
                      have hf40_ : hFs w wE := fun k i x1 x2 x3 => ((hFE k i (by omega)).1).trans (hf39_ k i x1 x2 x3)
                      have hj4 := hJs_fr hj3 (v := wE) (fun j => (hFE 188 j (by omega)).1) (fun j => (hFE 199 j (by omega)).1) (fun i _ _ _ => (hFE 184 i (by omega)).1)
                      refine wk_iconst xd_d8f0886b ?_
                      exact wk_ireturn xd_64bcf2fd xr_d37bfb88 wk_z1 ⟨_, _, rfl, hf40_, hGE, .inr ⟨by decide, _, _, _, _, hj4⟩⟩
                    · have h248_37 := aw_eq_f (a := ((wM.1 184 11).toInt : Int)) (b := (2 : Int)) rfl (show ((Int32.ofInt 2)).toInt = 2 from by decide) h248_37
                      refine wk_aload_n xd_fc70c79d rfl ?_
                      refine wk_iconst xd_35665b82 ?_
                      obtain ⟨xc41_, wc41_, hCc41_, hGc41_, hFc41_, hxc41_⟩ := xs_94_689db261 (w := wM) (a1 := (Int32.ofInt 1)) hGM
                      refine wk_call (kd := 0) (i := 176) xd_b85b4679 rfl (wk_cal (as := [.inr (.inr (some 184)), .inl (Int32.ofInt 1)]) (t := []) xl_f124abec rfl xn_f63023b8 xc_1907b494 rfl rfl xv_a1095a1b rfl) (cm_C_mono (by decide) hCc41_) ?_
                      have hf42_ : hFs w wc41_ := fun k i x1 x2 x3 => ((hFc41_ k i (by omega)).1).trans (hf37_ k i x1 x2 x3)
                      exact wk_ireturn xd_c7cfbc58 xr_d37bfb88 (aw_bit (by omega) (by omega)) ⟨_, _, rfl, hf42_, hGc41_, .inl (by omega)⟩
                  · have h224_35 := aw_le_f (a := ((wN.1 184 14).toInt : Int)) (b := (62 : Int)) rfl (show (((Int8.ofInt 62).toInt32)).toInt = 62 from by decide) h224_35
                    refine wk_aload_n xd_20a28290 rfl ?_
                    refine wk_iconst xd_d4cc2cac ?_
                    obtain ⟨xc43_, wc43_, hCc43_, hGc43_, hFc43_, hxc43_⟩ := xs_94_689db261 (w := (cm_u1 wN 184 43 (Int32.ofInt 1))) (a1 := (Int32.ofInt 1)) hG27_
                    refine wk_call (kd := 0) (i := 176) xd_6a3ec3c6 rfl (wk_cal (as := [.inr (.inr (some 184)), .inl (Int32.ofInt 1)]) (t := []) xl_f124abec rfl xn_f63023b8 xc_1907b494 rfl rfl xv_a1095a1b rfl) (cm_C_mono (by decide) hCc43_) ?_
                    have hf44_ : hFs w wc43_ := fun k i x1 x2 x3 => ((hFc43_ k i (by omega)).1).trans (hf26_ k i x1 x2 x3)
                    exact wk_ireturn xd_a7c7e263 xr_d37bfb88 (aw_bit (by omega) (by omega)) ⟨_, _, rfl, hf44_, hGc43_, .inl (by omega)⟩
            · have h147_28 := aw_ge_f (a := ((x3).toInt : Int)) (b := (4 : Int)) rfl (show ((Int32.ofInt 4)).toInt = 4 from by decide) h147_28
              refine wk_aload_n xd_52ee9b1a rfl ?_
              refine wk_iload_n xd_d43ed873 rfl ?_
              refine wk_iconst xd_2ad8887a ?_
              refine wk_icmp xd_e7b5a29e (t := 160) rfl (fun h153_44 => ?_) (fun h153_44 => ?_)
              · have h153_44 := aw_ne_t (a := ((x3).toInt : Int)) (b := (2 : Int)) rfl (show ((Int32.ofInt 2)).toInt = 2 from by decide) h153_44
                refine wk_bipush xd_8ce8c176 ?_
                refine wk_aload_n xd_e766e1db rfl ?_
                refine wk_getR xf_f27fbcc3 xd_646843cd ?_
                refine wk_iload_n xd_fa99e9f5 rfl ?_
                refine wk_iconst xd_17b44687 ?_
                refine wk_icmp xd_947d5ef0 (t := 175) rfl (fun h168_45 => ?_) (fun h168_45 => ?_)
                · have h168_45 := aw_ne_t (a := ((x3).toInt : Int)) (b := (2 : Int)) rfl (show ((Int32.ofInt 2)).toInt = 2 from by decide) h168_45
                  refine wk_iconst xd_a29765d3 ?_
                  refine aw_iaload (i := 2) xf_31d67ad9 (show ((Int32.ofInt 2)).toInt = 2 from by decide) (by omega) (by omega) xd_2a4c6dd9 ?_
                  obtain ⟨xL, wL, hCL, hGL, hFL, hxL⟩ := xs_274_22cf966a_c6b7 (w := (cm_u1 wN 184 43 (Int32.ofInt 1))) (a1 := ((Int8.ofInt 10).toInt32)) (a2 := ((cm_u1 wN 184 43 (Int32.ofInt 1)).1 186 2)) (by have e9 : (((Int8.ofInt 10).toInt32)).toInt = (10 : Int) := (show (((Int8.ofInt 10).toInt32)).toInt = 10 from by decide); exact ⟨by omega, by omega⟩) (by have e9 : (((cm_u1 wN 184 43 (Int32.ofInt 1)).1 186 2)).toInt = ((wN.1 186 2).toInt : Int) := rfl; exact ⟨by omega, by omega⟩) hG27_
                  refine wk_call (kd := 0) (i := 201) xd_7edbaf08 rfl (wk_cal (as := [.inr (.inr (some 184)), .inl ((Int8.ofInt 10).toInt32), .inl ((cm_u1 wN 184 43 (Int32.ofInt 1)).1 186 2)]) (t := []) xl_fd79e57f rfl xn_77145da2 xc_6d225164 rfl rfl xv_5b2ff62c rfl) (cm_C_mono (by decide) hCL) ?_
                  have hf47_ : hFs w wL := fun k i x1 x2 x3 => ((hFL k i (by omega)).1).trans (hf26_ k i x1 x2 x3)
                  have l39 : wL.1 184 39 = w.1 184 39 := ((hFL 184 39 (by omega)).1).trans n39
                  have l40 : (wL.1 184 40).toInt = ((n : Int) + 1 : Int) := by rw [(hFL 184 40 (by omega)).1]; exact n40
                  have l41 : wL.1 184 41 = w.1 184 41 := ((hFL 184 41 (by omega)).1).trans n41e
                  have l43 : (wL.1 184 43).toInt = 1 := by rw [(hFL 184 43 (by omega)).1]; show (Int32.ofInt 1).toInt = 1; decide
                  have l188 : ∀ j, wL.1 188 j = w.1 188 j := fun j => ((hFL 188 j (by omega)).1).trans (n188 j)
                  have l199 : ∀ j, wL.1 199 j = w.1 199 j := fun j => ((hFL 199 j (by omega)).1).trans (n199 j)
                  refine wk_if xd_8beb3672 (t := 185) rfl (fun h180_47 => ?_) (fun h180_47 => ?_)
                  · have h180_47 := aw_ne_t (a := ((xL).toInt : Int)) (b := (0 : Int)) rfl hb_z h180_47
                    refine wk_aload_n xd_f3ef179b rfl ?_
                    refine wk_iload_n xd_98a9871b rfl ?_
                    refine wk_iconst xd_800724bb ?_
                    refine wk_aload_n xd_68791ffa rfl ?_
                    refine wk_getI xf_fc12efb4 xd_782a7ab2 ?_
                    have hc_ : (wL.1 184 39).toInt = (c : Int) := by rw [l39]; exact k1
                    have hj3 := hJs_leaf (v := wL) (a := x3) (b := (Int32.ofInt 0)) (m := (wL.1 184 18)) hJ hn l188 l199 l39 l40 l41 l43 ⟨by omega, by omega⟩ (fun hh => by omega)
                    refine wk_call (kd := 0) (i := 413) xd_33b47209 rfl (wk_cal (as := [.inr (.inr (some 184)), .inl x3, .inl (Int32.ofInt 0), .inl (wL.1 184 18)]) (t := []) xl_c3f3b8fa rfl xn_2844c07f xc_82edc90f rfl rfl xv_6dbeb463 rfl) (cm_C_mono (by decide) (hcd_ok x3 (Int32.ofInt 0) (wL.1 184 18) hc_ (by omega))) ?_
                    have hf49_ := hFs_cd (c := c) (a := x3) (b := (Int32.ofInt 0)) (n := (wL.1 184 18)) hf47_
                    refine wk_aload_n xd_72ca72bc rfl ?_
                    obtain ⟨wE, hCE, hGE, hFE, hxE⟩ := xs_129_f2ad130c (w := (hcd wL c x3 (Int32.ofInt 0) (wL.1 184 18))) (hcd_G hc_ (by omega) hGL)
                    refine wk_call (kd := 0) (i := 179) xd_c6fa0556 rfl (wk_cal (as := [.inr (.inr (some 184))]) (t := []) xl_b037c8bc rfl xn_00af7311 xc_b2cf5bb1 rfl rfl xv_e7aa8f3d rfl) (cm_C_mono (by decide) hCE) ?_
                    have hf50_ : hFs w wE := fun k i x1 x2 x3 => ((hFE k i (by omega)).1).trans (hf49_ k i x1 x2 x3)
                    have hj4 := hJs_fr hj3 (v := wE) (fun j => (hFE 188 j (by omega)).1) (fun j => (hFE 199 j (by omega)).1) (fun i _ _ _ => (hFE 184 i (by omega)).1)
                    refine wk_iconst xd_eda69b5f ?_
                    exact wk_ireturn xd_7a7b4e5e xr_d37bfb88 wk_z1 ⟨_, _, rfl, hf50_, hGE, .inr ⟨by decide, _, _, _, _, hj4⟩⟩
                  · have h180_47 := aw_ne_f (a := ((xL).toInt : Int)) (b := (0 : Int)) rfl hb_z h180_47
                    refine wk_iconst xd_dca6b7bb ?_
                    exact wk_ireturn xd_a72455d8 xr_d37bfb88 wk_z0 ⟨_, _, rfl, hf47_, hGL, .inl (by decide)⟩
                · have h168_45 := aw_ne_f (a := ((x3).toInt : Int)) (b := (2 : Int)) rfl (show ((Int32.ofInt 2)).toInt = 2 from by decide) h168_45
                  refine wk_iconst xd_84f6a5b3 ?_
                  refine wk_goto xd_d3d533bf (t := 176) rfl ?_
                  refine aw_iaload (i := 0) xf_31d67ad9 (show ((Int32.ofInt 0)).toInt = 0 from by decide) (by omega) (by omega) xd_2a4c6dd9 ?_
                  obtain ⟨xL, wL, hCL, hGL, hFL, hxL⟩ := xs_274_22cf966a_c6b7 (w := (cm_u1 wN 184 43 (Int32.ofInt 1))) (a1 := ((Int8.ofInt 10).toInt32)) (a2 := ((cm_u1 wN 184 43 (Int32.ofInt 1)).1 186 0)) (by have e9 : (((Int8.ofInt 10).toInt32)).toInt = (10 : Int) := (show (((Int8.ofInt 10).toInt32)).toInt = 10 from by decide); exact ⟨by omega, by omega⟩) (by have e9 : (((cm_u1 wN 184 43 (Int32.ofInt 1)).1 186 0)).toInt = ((wN.1 186 0).toInt : Int) := rfl; exact ⟨by omega, by omega⟩) hG27_
                  refine wk_call (kd := 0) (i := 201) xd_7edbaf08 rfl (wk_cal (as := [.inr (.inr (some 184)), .inl ((Int8.ofInt 10).toInt32), .inl ((cm_u1 wN 184 43 (Int32.ofInt 1)).1 186 0)]) (t := []) xl_fd79e57f rfl xn_77145da2 xc_6d225164 rfl rfl xv_5b2ff62c rfl) (cm_C_mono (by decide) hCL) ?_
                  have hf51_ : hFs w wL := fun k i x1 x2 x3 => ((hFL k i (by omega)).1).trans (hf26_ k i x1 x2 x3)
                  have l39 : wL.1 184 39 = w.1 184 39 := ((hFL 184 39 (by omega)).1).trans n39
                  have l40 : (wL.1 184 40).toInt = ((n : Int) + 1 : Int) := by rw [(hFL 184 40 (by omega)).1]; exact n40
                  have l41 : wL.1 184 41 = w.1 184 41 := ((hFL 184 41 (by omega)).1).trans n41e
                  have l43 : (wL.1 184 43).toInt = 1 := by rw [(hFL 184 43 (by omega)).1]; show (Int32.ofInt 1).toInt = 1; decide
                  have l188 : ∀ j, wL.1 188 j = w.1 188 j := fun j => ((hFL 188 j (by omega)).1).trans (n188 j)
                  have l199 : ∀ j, wL.1 199 j = w.1 199 j := fun j => ((hFL 199 j (by omega)).1).trans (n199 j)
                  refine wk_if xd_8beb3672 (t := 185) rfl (fun h180_51 => ?_) (fun h180_51 => ?_)
                  · have h180_51 := aw_ne_t (a := ((xL).toInt : Int)) (b := (0 : Int)) rfl hb_z h180_51
                    refine wk_aload_n xd_f3ef179b rfl ?_
                    refine wk_iload_n xd_98a9871b rfl ?_
                    refine wk_iconst xd_800724bb ?_
                    refine wk_aload_n xd_68791ffa rfl ?_
                    refine wk_getI xf_fc12efb4 xd_782a7ab2 ?_
                    have hc_ : (wL.1 184 39).toInt = (c : Int) := by rw [l39]; exact k1
                    have hj3 := hJs_leaf (v := wL) (a := x3) (b := (Int32.ofInt 0)) (m := (wL.1 184 18)) hJ hn l188 l199 l39 l40 l41 l43 ⟨by omega, by omega⟩ (fun hh => by omega)
                    refine wk_call (kd := 0) (i := 413) xd_33b47209 rfl (wk_cal (as := [.inr (.inr (some 184)), .inl x3, .inl (Int32.ofInt 0), .inl (wL.1 184 18)]) (t := []) xl_c3f3b8fa rfl xn_2844c07f xc_82edc90f rfl rfl xv_6dbeb463 rfl) (cm_C_mono (by decide) (hcd_ok x3 (Int32.ofInt 0) (wL.1 184 18) hc_ (by omega))) ?_
                    have hf53_ := hFs_cd (c := c) (a := x3) (b := (Int32.ofInt 0)) (n := (wL.1 184 18)) hf51_
                    refine wk_aload_n xd_72ca72bc rfl ?_
                    obtain ⟨wE, hCE, hGE, hFE, hxE⟩ := xs_129_f2ad130c (w := (hcd wL c x3 (Int32.ofInt 0) (wL.1 184 18))) (hcd_G hc_ (by omega) hGL)
                    refine wk_call (kd := 0) (i := 179) xd_c6fa0556 rfl (wk_cal (as := [.inr (.inr (some 184))]) (t := []) xl_b037c8bc rfl xn_00af7311 xc_b2cf5bb1 rfl rfl xv_e7aa8f3d rfl) (cm_C_mono (by decide) hCE) ?_
                    have hf54_ : hFs w wE := fun k i x1 x2 x3 => ((hFE k i (by omega)).1).trans (hf53_ k i x1 x2 x3)
                    have hj4 := hJs_fr hj3 (v := wE) (fun j => (hFE 188 j (by omega)).1) (fun j => (hFE 199 j (by omega)).1) (fun i _ _ _ => (hFE 184 i (by omega)).1)
                    refine wk_iconst xd_eda69b5f ?_
                    exact wk_ireturn xd_7a7b4e5e xr_d37bfb88 wk_z1 ⟨_, _, rfl, hf54_, hGE, .inr ⟨by decide, _, _, _, _, hj4⟩⟩
                  · have h180_51 := aw_ne_f (a := ((xL).toInt : Int)) (b := (0 : Int)) rfl hb_z h180_51
                    refine wk_iconst xd_dca6b7bb ?_
                    exact wk_ireturn xd_a72455d8 xr_d37bfb88 wk_z0 ⟨_, _, rfl, hf51_, hGL, .inl (by decide)⟩
              · have h153_44 := aw_ne_f (a := ((x3).toInt : Int)) (b := (2 : Int)) rfl (show ((Int32.ofInt 2)).toInt = 2 from by decide) h153_44
                refine wk_iconst xd_0cb9481a ?_
                refine wk_goto xd_21fbcb6d (t := 162) rfl ?_
                refine wk_aload_n xd_e766e1db rfl ?_
                refine wk_getR xf_f27fbcc3 xd_646843cd ?_
                refine wk_iload_n xd_fa99e9f5 rfl ?_
                refine wk_iconst xd_17b44687 ?_
                refine wk_icmp xd_947d5ef0 (t := 175) rfl (fun h168_54 => ?_) (fun h168_54 => ?_)
                · have h168_54 := aw_ne_t (a := ((x3).toInt : Int)) (b := (2 : Int)) rfl (show ((Int32.ofInt 2)).toInt = 2 from by decide) h168_54
                  refine wk_iconst xd_a29765d3 ?_
                  refine aw_iaload (i := 2) xf_31d67ad9 (show ((Int32.ofInt 2)).toInt = 2 from by decide) (by omega) (by omega) xd_2a4c6dd9 ?_
                  obtain ⟨xL, wL, hCL, hGL, hFL, hxL⟩ := xs_274_f7bbdafb_c6b7 (w := (cm_u1 wN 184 43 (Int32.ofInt 1))) (a1 := (Int32.ofInt 0)) (a2 := ((cm_u1 wN 184 43 (Int32.ofInt 1)).1 186 2)) (by have e9 : ((Int32.ofInt 0)).toInt = (0 : Int) := (show ((Int32.ofInt 0)).toInt = 0 from by decide); exact ⟨by omega, by omega⟩) (by have e9 : (((cm_u1 wN 184 43 (Int32.ofInt 1)).1 186 2)).toInt = ((wN.1 186 2).toInt : Int) := rfl; exact ⟨by omega, by omega⟩) hG27_
                  refine wk_call (kd := 0) (i := 201) xd_7edbaf08 rfl (wk_cal (as := [.inr (.inr (some 184)), .inl (Int32.ofInt 0), .inl ((cm_u1 wN 184 43 (Int32.ofInt 1)).1 186 2)]) (t := []) xl_fd79e57f rfl xn_77145da2 xc_6d225164 rfl rfl xv_5b2ff62c rfl) (cm_C_mono (by decide) hCL) ?_
                  have hf56_ : hFs w wL := fun k i x1 x2 x3 => ((hFL k i (by omega)).1).trans (hf26_ k i x1 x2 x3)
                  have l39 : wL.1 184 39 = w.1 184 39 := ((hFL 184 39 (by omega)).1).trans n39
                  have l40 : (wL.1 184 40).toInt = ((n : Int) + 1 : Int) := by rw [(hFL 184 40 (by omega)).1]; exact n40
                  have l41 : wL.1 184 41 = w.1 184 41 := ((hFL 184 41 (by omega)).1).trans n41e
                  have l43 : (wL.1 184 43).toInt = 1 := by rw [(hFL 184 43 (by omega)).1]; show (Int32.ofInt 1).toInt = 1; decide
                  have l188 : ∀ j, wL.1 188 j = w.1 188 j := fun j => ((hFL 188 j (by omega)).1).trans (n188 j)
                  have l199 : ∀ j, wL.1 199 j = w.1 199 j := fun j => ((hFL 199 j (by omega)).1).trans (n199 j)
                  refine wk_if xd_8beb3672 (t := 185) rfl (fun h180_56 => ?_) (fun h180_56 => ?_)
                  · have h180_56 := aw_ne_t (a := ((xL).toInt : Int)) (b := (0 : Int)) rfl hb_z h180_56
                    refine wk_aload_n xd_f3ef179b rfl ?_
                    refine wk_iload_n xd_98a9871b rfl ?_
                    refine wk_iconst xd_800724bb ?_
                    refine wk_aload_n xd_68791ffa rfl ?_
                    refine wk_getI xf_fc12efb4 xd_782a7ab2 ?_
                    have hc_ : (wL.1 184 39).toInt = (c : Int) := by rw [l39]; exact k1
                    have hj3 := hJs_leaf (v := wL) (a := x3) (b := (Int32.ofInt 0)) (m := (wL.1 184 18)) hJ hn l188 l199 l39 l40 l41 l43 ⟨by omega, by omega⟩ (fun hh => by omega)
                    refine wk_call (kd := 0) (i := 413) xd_33b47209 rfl (wk_cal (as := [.inr (.inr (some 184)), .inl x3, .inl (Int32.ofInt 0), .inl (wL.1 184 18)]) (t := []) xl_c3f3b8fa rfl xn_2844c07f xc_82edc90f rfl rfl xv_6dbeb463 rfl) (cm_C_mono (by decide) (hcd_ok x3 (Int32.ofInt 0) (wL.1 184 18) hc_ (by omega))) ?_
                    have hf58_ := hFs_cd (c := c) (a := x3) (b := (Int32.ofInt 0)) (n := (wL.1 184 18)) hf56_
                    refine wk_aload_n xd_72ca72bc rfl ?_
                    obtain ⟨wE, hCE, hGE, hFE, hxE⟩ := xs_129_f2ad130c (w := (hcd wL c x3 (Int32.ofInt 0) (wL.1 184 18))) (hcd_G hc_ (by omega) hGL)
                    refine wk_call (kd := 0) (i := 179) xd_c6fa0556 rfl (wk_cal (as := [.inr (.inr (some 184))]) (t := []) xl_b037c8bc rfl xn_00af7311 xc_b2cf5bb1 rfl rfl xv_e7aa8f3d rfl) (cm_C_mono (by decide) hCE) ?_
                    have hf59_ : hFs w wE := fun k i x1 x2 x3 => ((hFE k i (by omega)).1).trans (hf58_ k i x1 x2 x3)
                    have hj4 := hJs_fr hj3 (v := wE) (fun j => (hFE 188 j (by omega)).1) (fun j => (hFE 199 j (by omega)).1) (fun i _ _ _ => (hFE 184 i (by omega)).1)
                    refine wk_iconst xd_eda69b5f ?_
                    exact wk_ireturn xd_7a7b4e5e xr_d37bfb88 wk_z1 ⟨_, _, rfl, hf59_, hGE, .inr ⟨by decide, _, _, _, _, hj4⟩⟩
                  · have h180_56 := aw_ne_f (a := ((xL).toInt : Int)) (b := (0 : Int)) rfl hb_z h180_56
                    refine wk_iconst xd_dca6b7bb ?_
                    exact wk_ireturn xd_a72455d8 xr_d37bfb88 wk_z0 ⟨_, _, rfl, hf56_, hGL, .inl (by decide)⟩
                · have h168_54 := aw_ne_f (a := ((x3).toInt : Int)) (b := (2 : Int)) rfl (show ((Int32.ofInt 2)).toInt = 2 from by decide) h168_54
                  refine wk_iconst xd_84f6a5b3 ?_
                  refine wk_goto xd_d3d533bf (t := 176) rfl ?_
                  refine aw_iaload (i := 0) xf_31d67ad9 (show ((Int32.ofInt 0)).toInt = 0 from by decide) (by omega) (by omega) xd_2a4c6dd9 ?_
                  obtain ⟨xL, wL, hCL, hGL, hFL, hxL⟩ := xs_274_f7bbdafb_c6b7 (w := (cm_u1 wN 184 43 (Int32.ofInt 1))) (a1 := (Int32.ofInt 0)) (a2 := ((cm_u1 wN 184 43 (Int32.ofInt 1)).1 186 0)) (by have e9 : ((Int32.ofInt 0)).toInt = (0 : Int) := (show ((Int32.ofInt 0)).toInt = 0 from by decide); exact ⟨by omega, by omega⟩) (by have e9 : (((cm_u1 wN 184 43 (Int32.ofInt 1)).1 186 0)).toInt = ((wN.1 186 0).toInt : Int) := rfl; exact ⟨by omega, by omega⟩) hG27_
                  refine wk_call (kd := 0) (i := 201) xd_7edbaf08 rfl (wk_cal (as := [.inr (.inr (some 184)), .inl (Int32.ofInt 0), .inl ((cm_u1 wN 184 43 (Int32.ofInt 1)).1 186 0)]) (t := []) xl_fd79e57f rfl xn_77145da2 xc_6d225164 rfl rfl xv_5b2ff62c rfl) (cm_C_mono (by decide) hCL) ?_
                  have hf60_ : hFs w wL := fun k i x1 x2 x3 => ((hFL k i (by omega)).1).trans (hf26_ k i x1 x2 x3)
                  have l39 : wL.1 184 39 = w.1 184 39 := ((hFL 184 39 (by omega)).1).trans n39
                  have l40 : (wL.1 184 40).toInt = ((n : Int) + 1 : Int) := by rw [(hFL 184 40 (by omega)).1]; exact n40
                  have l41 : wL.1 184 41 = w.1 184 41 := ((hFL 184 41 (by omega)).1).trans n41e
                  have l43 : (wL.1 184 43).toInt = 1 := by rw [(hFL 184 43 (by omega)).1]; show (Int32.ofInt 1).toInt = 1; decide
                  have l188 : ∀ j, wL.1 188 j = w.1 188 j := fun j => ((hFL 188 j (by omega)).1).trans (n188 j)
                  have l199 : ∀ j, wL.1 199 j = w.1 199 j := fun j => ((hFL 199 j (by omega)).1).trans (n199 j)
                  refine wk_if xd_8beb3672 (t := 185) rfl (fun h180_60 => ?_) (fun h180_60 => ?_)
                  · have h180_60 := aw_ne_t (a := ((xL).toInt : Int)) (b := (0 : Int)) rfl hb_z h180_60
                    refine wk_aload_n xd_f3ef179b rfl ?_
                    refine wk_iload_n xd_98a9871b rfl ?_
                    refine wk_iconst xd_800724bb ?_
                    refine wk_aload_n xd_68791ffa rfl ?_
                    refine wk_getI xf_fc12efb4 xd_782a7ab2 ?_
                    have hc_ : (wL.1 184 39).toInt = (c : Int) := by rw [l39]; exact k1
                    have hj3 := hJs_leaf (v := wL) (a := x3) (b := (Int32.ofInt 0)) (m := (wL.1 184 18)) hJ hn l188 l199 l39 l40 l41 l43 ⟨by omega, by omega⟩ (fun hh => by omega)
                    refine wk_call (kd := 0) (i := 413) xd_33b47209 rfl (wk_cal (as := [.inr (.inr (some 184)), .inl x3, .inl (Int32.ofInt 0), .inl (wL.1 184 18)]) (t := []) xl_c3f3b8fa rfl xn_2844c07f xc_82edc90f rfl rfl xv_6dbeb463 rfl) (cm_C_mono (by decide) (hcd_ok x3 (Int32.ofInt 0) (wL.1 184 18) hc_ (by omega))) ?_
                    have hf62_ := hFs_cd (c := c) (a := x3) (b := (Int32.ofInt 0)) (n := (wL.1 184 18)) hf60_
                    refine wk_aload_n xd_72ca72bc rfl ?_
                    obtain ⟨wE, hCE, hGE, hFE, hxE⟩ := xs_129_f2ad130c (w := (hcd wL c x3 (Int32.ofInt 0) (wL.1 184 18))) (hcd_G hc_ (by omega) hGL)
                    refine wk_call (kd := 0) (i := 179) xd_c6fa0556 rfl (wk_cal (as := [.inr (.inr (some 184))]) (t := []) xl_b037c8bc rfl xn_00af7311 xc_b2cf5bb1 rfl rfl xv_e7aa8f3d rfl) (cm_C_mono (by decide) hCE) ?_
                    have hf63_ : hFs w wE := fun k i x1 x2 x3 => ((hFE k i (by omega)).1).trans (hf62_ k i x1 x2 x3)
                    have hj4 := hJs_fr hj3 (v := wE) (fun j => (hFE 188 j (by omega)).1) (fun j => (hFE 199 j (by omega)).1) (fun i _ _ _ => (hFE 184 i (by omega)).1)
                    refine wk_iconst xd_eda69b5f ?_
                    exact wk_ireturn xd_7a7b4e5e xr_d37bfb88 wk_z1 ⟨_, _, rfl, hf63_, hGE, .inr ⟨by decide, _, _, _, _, hj4⟩⟩
                  · have h180_60 := aw_ne_f (a := ((xL).toInt : Int)) (b := (0 : Int)) rfl hb_z h180_60
                    refine wk_iconst xd_dca6b7bb ?_
                    exact wk_ireturn xd_a72455d8 xr_d37bfb88 wk_z0 ⟨_, _, rfl, hf60_, hGL, .inl (by decide)⟩
          · have h133_27 := aw_ge_f (a := ((x3).toInt : Int)) (b := (2 : Int)) rfl (show ((Int32.ofInt 2)).toInt = 2 from by decide) h133_27
            refine wk_aload_n xd_0f19bb30 rfl ?_
            refine wk_iload_n xd_89c9f859 rfl ?_
            refine wk_iconst xd_2ac146e0 ?_
            refine wk_iconst xd_3de92220 ?_
            have hc_ : ((cm_u1 wN 184 43 (Int32.ofInt 1)).1 184 39).toInt = (c : Int) := by show (wN.1 184 39).toInt = _; rw [n39]; exact k1
            have hj3 := hJs_leaf (v := (cm_u1 wN 184 43 (Int32.ofInt 1))) (a := x3) (b := (Int32.ofInt 0)) (m := (Int32.ofInt 0)) hJ hn n188 n199 n39 n40 n41e (show (Int32.ofInt 1).toInt = 1 from by decide) ⟨by omega, by omega⟩ (fun hh => by omega)
            refine wk_call (kd := 0) (i := 413) xd_4d3f887f rfl (wk_cal (as := [.inr (.inr (some 184)), .inl x3, .inl (Int32.ofInt 0), .inl (Int32.ofInt 0)]) (t := []) xl_c3f3b8fa rfl xn_2844c07f xc_82edc90f rfl rfl xv_6dbeb463 rfl) (cm_C_mono (by decide) (hcd_ok x3 (Int32.ofInt 0) (Int32.ofInt 0) hc_ (by omega))) ?_
            have hf64_ := hFs_cd (c := c) (a := x3) (b := (Int32.ofInt 0)) (n := (Int32.ofInt 0)) hf26_
            refine wk_iconst xd_e1237cbe ?_
            exact wk_ireturn xd_42c6e0d8 xr_d37bfb88 wk_z1 ⟨_, _, rfl, hf64_, (hcd_G hc_ (by omega) hG27_), .inr ⟨by decide, _, _, _, _, hj3⟩⟩
        · have h81_24 := aw_eq_f (a := ((x2).toInt : Int)) (b := (0 : Int)) rfl hb_z h81_24
          refine wk_aload_n xd_b5d6d8f2 rfl ?_
          refine wk_getR xf_1029fb0d xd_524c8c8d ?_
          refine wk_aload_n xd_b5333a47 rfl ?_
          refine wk_getI xf_10ed4a63 xd_3121e48a ?_
          refine wk_iload_n xd_be5a3572 rfl ?_
          refine wk_if xd_9227b506 (t := 101) rfl (fun h93_64 => ?_) (fun h93_64 => ?_)
          · have h93_64 := aw_eq_t (a := ((x1).toInt : Int)) (b := (0 : Int)) rfl hb_z h93_64
            refine wk_bipush xd_6692718c ?_
            refine aw_iastore (i := t) xf_80f5fdb6 (show ((wN.1 184 41)).toInt = ((t : Int) : Int) from n41) (by omega) (by omega) xd_d0bd0601 ?_
            have hf66_ : hFs w (cm_u1 wN 199 t ((Int8.ofInt 23).toInt32)) := fun k i x1 x2 x3 => (hs_u1_ne (by omega)).trans (hf8_ k i x1 x2 x3)
            have hG67_ : sv_w sg (cm_u1 wN 199 t ((Int8.ofInt 23).toInt32)) := sv_w_u1 hGN (by rw [xh_5d7eb382 t (by omega)]; exact sv_in_top _)
            refine wk_aload_n xd_ba91c1f1 rfl ?_
            refine wk_dup_r xd_6833fd8c ?_
            refine wk_getI xf_10ed4a63 xd_cd35716d ?_
            refine wk_iconst xd_766c32ad ?_
            refine aw_iadd (a := ((t : Int) : Int)) (b := (1 : Int)) (e := ((t : Int) + 1 : Int)) xd_6ab77a07 (show (((cm_u1 wN 199 t ((Int8.ofInt 23).toInt32)).1 184 41)).toInt = ((t : Int) : Int) from n41) (show ((Int32.ofInt 1)).toInt = 1 from by decide) (by omega) (by omega) (by omega) (fun v68_ p68_ => ?_)
            refine wk_putI xf_627c6a3d (fun ci => wk_fitI ci) xd_24c648ae ?_
            have hf69_ : hFs w (cm_u1 (cm_u1 wN 199 t ((Int8.ofInt 23).toInt32)) 184 41 v68_) := fun k i x1 x2 x3 => (hs_u1_ne (by omega)).trans (hf66_ k i x1 x2 x3)
            have hG70_ : sv_w sg (cm_u1 (cm_u1 wN 199 t ((Int8.ofInt 23).toInt32)) 184 41 v68_) := sv_w_u1 hG67_ (by rw [xg_f29d027f]; exact hb_mk (by rw [p68_]; omega) (by rw [p68_]; omega))
            refine wk_aload_n xd_3bb4a4d6 rfl ?_
            refine wk_dup_r xd_87614b6d ?_
            refine wk_getI xf_db488d2b xd_1199b63c ?_
            refine wk_iconst xd_ed1fd879 ?_
            refine wk_iadd xd_c9e1fcae ?_
            refine wk_putI xf_a9d9ad75 (fun ci => wk_fitI ci) xd_2572b97d ?_
            have hf71_ : hFs w (cm_u1 (cm_u1 (cm_u1 wN 199 t ((Int8.ofInt 23).toInt32)) 184 41 v68_) 184 42 (((cm_u1 (cm_u1 wN 199 t ((Int8.ofInt 23).toInt32)) 184 41 v68_).1 184 42) + (Int32.ofInt 1))) := fun k i x1 x2 x3 => (hs_u1_ne (by omega)).trans (hf69_ k i x1 x2 x3)
            have hG72_ : sv_w sg (cm_u1 (cm_u1 (cm_u1 wN 199 t ((Int8.ofInt 23).toInt32)) 184 41 v68_) 184 42 (((cm_u1 (cm_u1 wN 199 t ((Int8.ofInt 23).toInt32)) 184 41 v68_).1 184 42) + (Int32.ofInt 1))) := sv_w_u1 hG70_ (by rw [xg_fb7c9e3d]; exact sv_in_top _)
            refine wk_iconst xd_69303084 ?_
            have hj4 : hJs (cm_u1 (cm_u1 (cm_u1 wN 199 t ((Int8.ofInt 23).toInt32)) 184 41 v68_) 184 42 (((cm_u1 (cm_u1 wN 199 t ((Int8.ofInt 23).toInt32)) 184 41 v68_).1 184 42) + (Int32.ofInt 1))) c (t + 1) (n + 1) 0 H := hJs_open hJ hn (fun j => n188 j) (fun j hj => by rw [hs_u1_ne (by omega), hs_u1_ne (by omega), hs_u1_ne (by omega)]; exact n199 j) (by show ((cm_u1 (cm_u1 (cm_u1 wN 199 t ((Int8.ofInt 23).toInt32)) 184 41 v68_) 184 42 (((cm_u1 (cm_u1 wN 199 t ((Int8.ofInt 23).toInt32)) 184 41 v68_).1 184 42) + (Int32.ofInt 1))).1 199 t).toInt = 20 ∨ ((cm_u1 (cm_u1 (cm_u1 wN 199 t ((Int8.ofInt 23).toInt32)) 184 41 v68_) 184 42 (((cm_u1 (cm_u1 wN 199 t ((Int8.ofInt 23).toInt32)) 184 41 v68_).1 184 42) + (Int32.ofInt 1))).1 199 t).toInt = 23; rw [hs_u1_ne (by omega), hs_u1_ne (by omega), hs_u1_self]; decide) n39 n40 ((show (((cm_u1 (cm_u1 (cm_u1 wN 199 t ((Int8.ofInt 23).toInt32)) 184 41 v68_) 184 42 (((cm_u1 (cm_u1 wN 199 t ((Int8.ofInt 23).toInt32)) 184 41 v68_).1 184 42) + (Int32.ofInt 1))).1 184 41)).toInt = ((t : Int) + 1 : Int) from p68_).trans (by omega)) n43
            exact wk_ireturn xd_afed39c6 xr_d37bfb88 wk_z1 ⟨_, _, rfl, hf71_, hG72_, .inr ⟨by decide, _, _, _, _, hj4⟩⟩
          · have h93_64 := aw_eq_f (a := ((x1).toInt : Int)) (b := (0 : Int)) rfl hb_z h93_64
            refine wk_bipush xd_d9e9efd6 ?_
            refine wk_goto xd_df496744 (t := 103) rfl ?_
            refine aw_iastore (i := t) xf_80f5fdb6 (show ((wN.1 184 41)).toInt = ((t : Int) : Int) from n41) (by omega) (by omega) xd_d0bd0601 ?_
            have hf73_ : hFs w (cm_u1 wN 199 t ((Int8.ofInt 20).toInt32)) := fun k i x1 x2 x3 => (hs_u1_ne (by omega)).trans (hf8_ k i x1 x2 x3)
            have hG74_ : sv_w sg (cm_u1 wN 199 t ((Int8.ofInt 20).toInt32)) := sv_w_u1 hGN (by rw [xh_5d7eb382 t (by omega)]; exact sv_in_top _)
            refine wk_aload_n xd_ba91c1f1 rfl ?_
            refine wk_dup_r xd_6833fd8c ?_
            refine wk_getI xf_10ed4a63 xd_cd35716d ?_
            refine wk_iconst xd_766c32ad ?_
            refine aw_iadd (a := ((t : Int) : Int)) (b := (1 : Int)) (e := ((t : Int) + 1 : Int)) xd_6ab77a07 (show (((cm_u1 wN 199 t ((Int8.ofInt 20).toInt32)).1 184 41)).toInt = ((t : Int) : Int) from n41) (show ((Int32.ofInt 1)).toInt = 1 from by decide) (by omega) (by omega) (by omega) (fun v75_ p75_ => ?_)
            refine wk_putI xf_627c6a3d (fun ci => wk_fitI ci) xd_24c648ae ?_
            have hf76_ : hFs w (cm_u1 (cm_u1 wN 199 t ((Int8.ofInt 20).toInt32)) 184 41 v75_) := fun k i x1 x2 x3 => (hs_u1_ne (by omega)).trans (hf73_ k i x1 x2 x3)
            have hG77_ : sv_w sg (cm_u1 (cm_u1 wN 199 t ((Int8.ofInt 20).toInt32)) 184 41 v75_) := sv_w_u1 hG74_ (by rw [xg_f29d027f]; exact hb_mk (by rw [p75_]; omega) (by rw [p75_]; omega))
            refine wk_aload_n xd_3bb4a4d6 rfl ?_
            refine wk_dup_r xd_87614b6d ?_
            refine wk_getI xf_db488d2b xd_1199b63c ?_
            refine wk_iconst xd_ed1fd879 ?_
            refine wk_iadd xd_c9e1fcae ?_
            refine wk_putI xf_a9d9ad75 (fun ci => wk_fitI ci) xd_2572b97d ?_
            have hf78_ : hFs w (cm_u1 (cm_u1 (cm_u1 wN 199 t ((Int8.ofInt 20).toInt32)) 184 41 v75_) 184 42 (((cm_u1 (cm_u1 wN 199 t ((Int8.ofInt 20).toInt32)) 184 41 v75_).1 184 42) + (Int32.ofInt 1))) := fun k i x1 x2 x3 => (hs_u1_ne (by omega)).trans (hf76_ k i x1 x2 x3)
            have hG79_ : sv_w sg (cm_u1 (cm_u1 (cm_u1 wN 199 t ((Int8.ofInt 20).toInt32)) 184 41 v75_) 184 42 (((cm_u1 (cm_u1 wN 199 t ((Int8.ofInt 20).toInt32)) 184 41 v75_).1 184 42) + (Int32.ofInt 1))) := sv_w_u1 hG77_ (by rw [xg_fb7c9e3d]; exact sv_in_top _)
            refine wk_iconst xd_69303084 ?_
            have hj4 : hJs (cm_u1 (cm_u1 (cm_u1 wN 199 t ((Int8.ofInt 20).toInt32)) 184 41 v75_) 184 42 (((cm_u1 (cm_u1 wN 199 t ((Int8.ofInt 20).toInt32)) 184 41 v75_).1 184 42) + (Int32.ofInt 1))) c (t + 1) (n + 1) 0 H := hJs_open hJ hn (fun j => n188 j) (fun j hj => by rw [hs_u1_ne (by omega), hs_u1_ne (by omega), hs_u1_ne (by omega)]; exact n199 j) (by show ((cm_u1 (cm_u1 (cm_u1 wN 199 t ((Int8.ofInt 20).toInt32)) 184 41 v75_) 184 42 (((cm_u1 (cm_u1 wN 199 t ((Int8.ofInt 20).toInt32)) 184 41 v75_).1 184 42) + (Int32.ofInt 1))).1 199 t).toInt = 20 ∨ ((cm_u1 (cm_u1 (cm_u1 wN 199 t ((Int8.ofInt 20).toInt32)) 184 41 v75_) 184 42 (((cm_u1 (cm_u1 wN 199 t ((Int8.ofInt 20).toInt32)) 184 41 v75_).1 184 42) + (Int32.ofInt 1))).1 199 t).toInt = 23; rw [hs_u1_ne (by omega), hs_u1_ne (by omega), hs_u1_self]; decide) n39 n40 ((show (((cm_u1 (cm_u1 (cm_u1 wN 199 t ((Int8.ofInt 20).toInt32)) 184 41 v75_) 184 42 (((cm_u1 (cm_u1 wN 199 t ((Int8.ofInt 20).toInt32)) 184 41 v75_).1 184 42) + (Int32.ofInt 1))).1 184 41)).toInt = ((t : Int) + 1 : Int) from p75_).trans (by omega)) n43
            exact wk_ireturn xd_afed39c6 xr_d37bfb88 wk_z1 ⟨_, _, rfl, hf78_, hG79_, .inr ⟨by decide, _, _, _, _, hj4⟩⟩
    · have h53_3 := aw_le_f (a := ((w.1 184 42).toInt : Int)) (b := (8 : Int)) rfl (show (((Int8.ofInt 8).toInt32)).toInt = 8 from by decide) h53_3
      refine wk_aload_n xd_626eccdd rfl ?_
      refine wk_iconst xd_a948fe75 ?_
      obtain ⟨xc80_, wc80_, hCc80_, hGc80_, hFc80_, hxc80_⟩ := xs_94_689db261 (w := w) (a1 := (Int32.ofInt 4)) hG
      refine wk_call (kd := 0) (i := 176) xd_888bcf38 rfl (wk_cal (as := [.inr (.inr (some 184)), .inl (Int32.ofInt 4)]) (t := []) xl_f124abec rfl xn_f63023b8 xc_1907b494 rfl rfl xv_a1095a1b rfl) (cm_C_mono (by decide) hCc80_) ?_
      have hf81_ : hFs w wc80_ := fun k i x1 x2 x3 => ((hFc80_ k i (by omega)).1).trans (hF0 k i x1 x2 x3)
      exact wk_ireturn xd_0a0ebe93 xr_d37bfb88 (aw_bit (by omega) (by omega)) ⟨_, _, rfl, hf81_, hGc80_, .inl (by omega)⟩
theorem hop_ok {w : cm_W} {c t n H : Nat} (hJ : hJs w c t n 0 H) (hG : sv_w sg w) : ∃ x w', cm_C 3 134 [.inr (.inr (some 184))] w (some (.inl x), w') ∧ hFs w w' ∧ sv_w sg w' ∧ (x.toInt = 0 ∨ (x.toInt = 1 ∧ ∃ c' t' b' H', hJs w' c' t' (n + 1) b' H')) := by
  have hF0 : hFs w w := fun _ _ _ _ _ => rfl
  have h : ∃ o, cm_C (2 + 1) 134 [.inr (.inr (some 184))] w o ∧ (fun o : cm_O => ∃ x w', o = (some (.inl x), w') ∧ hFs w w' ∧ sv_w sg w' ∧ (x.toInt = 0 ∨ (x.toInt = 1 ∧ ∃ c' t' b' H', hJs w' c' t' (n + 1) b' H'))) o := by
    refine wk_entry (by rw [xm_48b35298]; exact Nat.le_of_ble_eq_true rfl) ?_
    rw [show cm_ent 134 [.inr (.inr (some 184))] = [some (.inr (.inr (some 184))), none, none, none, none] from by unfold cm_ent; rw [xm_48b35298]; rfl]
    refine wk_aload_n xd_a1fb5497 rfl ?_
    refine aw_ldc2 xl_89aa3103 rfl xd_5773a0fa ?_
    obtain ⟨xc82_, hCc82_, hxc82_⟩ := xs_120_037aea58 (w := w) (l1 := (Int64.ofNat 7237492)) hG
    refine wk_call (kd := 0) (i := 210) xd_0deea7b7 rfl (wk_cal (as := [.inr (.inr (some 184)), .inr (.inl (Int64.ofNat 7237492))]) (t := []) xl_7862eed5 rfl xn_94b640da xc_24159032 rfl rfl xv_bdbd9e17 rfl) (cm_C_mono (by decide) hCc82_) ?_
    refine wk_istore_n xd_c2c3eb22 (by rw [xm_48b35298]; rfl) rfl ?_
    refine wk_aload_n xd_a14217b1 rfl ?_
    refine wk_bipush xd_ece49f92 ?_
    obtain ⟨xc83_, hCc83_, hxc83_⟩ := xs_118_d21a6527 (w := w) (a1 := ((Int8.ofInt 40).toInt32)) hG
    refine wk_call (kd := 0) (i := 173) xd_4839f43b rfl (wk_cal (as := [.inr (.inr (some 184)), .inl ((Int8.ofInt 40).toInt32)]) (t := []) xl_eb23fbe0 rfl xn_225279b5 xc_ca564353 rfl rfl xv_bcdeec94 rfl) (cm_C_mono (by decide) hCc83_) ?_
    refine wk_istore_n xd_00371d67 (by rw [xm_48b35298]; rfl) rfl ?_
    refine wk_aload_n xd_7d8d6bbf rfl ?_
    obtain ⟨xc84_, hCc84_, hxc84_⟩ := xs_125_35fa1572 (w := w) hG
    refine wk_call (kd := 0) (i := 420) xd_25dbaac8 rfl (wk_cal (as := [.inr (.inr (some 184))]) (t := []) xl_a8e7eb95 rfl xn_c55f9e10 xc_77da5405 rfl rfl xv_50854d28 rfl) (cm_C_mono (by decide) hCc84_) ?_
    refine wk_istore_n xd_0779f311 (by rw [xm_48b35298]; rfl) rfl ?_
    refine wk_iload_n xd_d9df730d rfl ?_
    refine wk_if xd_05282231 (t := 38) rfl (fun h21_84 => ?_) (fun h21_84 => ?_)
    · have h21_84 := aw_ne_t (a := ((xc82_).toInt : Int)) (b := (0 : Int)) rfl hb_z h21_84
      exact hop_38 xc82_ xc83_ xc84_ hJ hG ⟨by omega, by omega⟩ ⟨by omega, by omega⟩ ⟨by omega, by omega⟩ (by omega)
    · have h21_84 := aw_ne_f (a := ((xc82_).toInt : Int)) (b := (0 : Int)) rfl hb_z h21_84
      refine wk_iload_n xd_9e23a84e rfl ?_
      refine wk_if xd_91e9efb4 (t := 38) rfl (fun h25_85 => ?_) (fun h25_85 => ?_)
      · have h25_85 := aw_ne_t (a := ((xc83_).toInt : Int)) (b := (0 : Int)) rfl hb_z h25_85
        exact hop_38 xc82_ xc83_ xc84_ hJ hG ⟨by omega, by omega⟩ ⟨by omega, by omega⟩ ⟨by omega, by omega⟩ (by omega)
      · have h25_85 := aw_ne_f (a := ((xc83_).toInt : Int)) (b := (0 : Int)) rfl hb_z h25_85
        refine wk_iload_n xd_a3a6634b rfl ?_
        refine wk_if xd_4f86be8c (t := 38) rfl (fun h29_86 => ?_) (fun h29_86 => ?_)
        · have h29_86 := aw_ge_t (a := ((xc84_).toInt : Int)) (b := (0 : Int)) rfl hb_z h29_86
          exact hop_38 xc82_ xc83_ xc84_ hJ hG ⟨by omega, by omega⟩ ⟨by omega, by omega⟩ ⟨by omega, by omega⟩ (by omega)
        · have h29_86 := aw_ge_f (a := ((xc84_).toInt : Int)) (b := (0 : Int)) rfl hb_z h29_86
          refine wk_aload_n xd_d20f3f1e rfl ?_
          refine wk_iconst xd_d0c3907f ?_
          obtain ⟨xc88_, wc88_, hCc88_, hGc88_, hFc88_, hxc88_⟩ := xs_94_689db261 (w := w) (a1 := (Int32.ofInt 1)) hG
          refine wk_call (kd := 0) (i := 176) xd_8d643dcb rfl (wk_cal (as := [.inr (.inr (some 184)), .inl (Int32.ofInt 1)]) (t := []) xl_f124abec rfl xn_f63023b8 xc_1907b494 rfl rfl xv_a1095a1b rfl) (cm_C_mono (by decide) hCc88_) ?_
          have hf89_ : hFs w wc88_ := fun k i x1 x2 x3 => ((hFc88_ k i (by omega)).1).trans (hF0 k i x1 x2 x3)
          exact wk_ireturn xd_b7ba4c95 xr_d37bfb88 (aw_bit (by omega) (by omega)) ⟨_, _, rfl, hf89_, hGc88_, .inl (by omega)⟩
  obtain ⟨o, hC, x, w', rfl, a⟩ := h
  exact ⟨x, w', hC, a⟩
