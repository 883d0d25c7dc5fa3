/-! ## by hand: said of the reference, over codes that are a postfix program (wip/p2/gen95.py) -/
/-- a row of a program on a stack: from h values to h' -/
def jRow (f : Nat → Int32) (i h h' : Nat) : Prop := ((f (3 * i)).toInt = 20 ∧ 1 ≤ h ∧ h' = h) ∨ (((f (3 * i)).toInt = 21 ∨ (f (3 * i)).toInt = 22) ∧ 2 ≤ h ∧ h' + 1 = h) ∨ (0 ≤ (f (3 * i)).toInt ∧ (f (3 * i)).toInt ≤ 7 ∧ h' = h + 1 ∧ ((f (3 * i)).toInt = 2 ∨ (f (3 * i)).toInt = 3 → 0 ≤ (f (3 * i + 2)).toInt ∧ (f (3 * i + 2)).toInt ≤ 5))
/-- c rows -/
def hPf (c : Nat) (f : Nat → Int32) : Prop := c ≤ 40 ∧ ∃ ht : Nat → Nat, ht 0 = 0 ∧ (∀ i, i ≤ c → ht i ≤ i) ∧ ∀ i, i < c → jRow f i (ht i) (ht (i + 1))
/-- the reference's sentence is one -/
def hPs (w : cm_W) : Prop := ∃ c : Nat, (w.1 186 120).toInt = (c : Int) ∧ hPf c (fun j => w.1 186 (121 + j))
theorem hPf_eq {c : Nat} {f g : Nat → Int32} (h : ∀ j, j < 120 → f j = g j) (hf : hPf c f) : hPf c g := by
  obtain ⟨h1, ht, h2, h3, h4⟩ := hf
  refine ⟨h1, ht, h2, h3, fun i hi => ?_⟩
  have r := h4 i hi
  unfold jRow at r ⊢
  rw [← h (3 * i) (by omega), ← h (3 * i + 2) (by omega)]
  exact r
set_option maxRecDepth 100000 in
theorem xs_261_7fb391bc {a1 : Int32} {a2 : Int32} {a3 : Int32} {a4 : Int32} {w : cm_W} (h1 : 0 ≤ a1.toInt ∧ a1.toInt ≤ 5) (h2 : 0 ≤ a2.toInt ∧ a2.toInt ≤ 1) (hG : sv_w sg w) : ∃ x : Int32, cm_C 3 261 [.inr (.inr (some 184)), .inl a1, .inl a2, .inl a3, .inl a4] w (some (.inl x), w) ∧ ((x.toInt = 1) ∨ (x.toInt = 0)) := by
  obtain ⟨r, w', hC, hG', hF, q, hq, hr, hp, hs⟩ := wk_use (d := 3) sm_261_7fb391bc_ok (by decide) (as := [.inr (.inr (some 184)), .inl a1, .inl a2, .inl a3, .inl a4]) (w := w) ⟨rfl, hb_mk (lo := 2147483648) (hi := 2147483653) (by have := h1.1; omega) (by have := h1.2; omega), hb_mk (lo := 2147483648) (hi := 2147483649) (by have := h2.1; omega) (by have := h2.2; omega), sv_in_top _, sv_in_top _, trivial⟩ (fun f hf => by
    cases hf) hG
  have ew : w' = w := Prod.ext (funext fun k => funext fun i => (hF k i (fun ⟨r, z, _⟩ => by cases z)).1) (funext fun k => funext fun i => (hF k i (fun ⟨r, z, _⟩ => by cases z)).2)
  subst ew
  simp only [sm_261_7fb391bc, List.mem_cons, List.not_mem_nil, or_false] at hq
  rcases hq with rfl | rfl
  · obtain ⟨x, rfl, hx⟩ := wk_int hr
    have hx := hb_in hx
    exact ⟨x, hC, Or.inl (by omega)⟩
  · obtain ⟨x, rfl, hx⟩ := wk_int hr
    have hx := hb_in hx
    exact ⟨x, hC, Or.inr ((by omega))⟩
set_option maxRecDepth 100000 in
theorem xs_261_2156a100 {a1 : Int32} {a2 : Int32} {a3 : Int32} {a4 : Int32} {w : cm_W} (h1 : 0 ≤ a1.toInt ∧ a1.toInt ≤ 5) (h2 : 2 ≤ a2.toInt ∧ a2.toInt ≤ 3) (h4 : 0 ≤ a4.toInt ∧ a4.toInt ≤ 5) (hG : sv_w sg w) : ∃ x : Int32, cm_C 2 261 [.inr (.inr (some 184)), .inl a1, .inl a2, .inl a3, .inl a4] w (some (.inl x), w) ∧ ((x.toInt = 0) ∨ (x.toInt = 1)) := by
  obtain ⟨r, w', hC, hG', hF, q, hq, hr, hp, hs⟩ := wk_use (d := 2) sm_261_2156a100_ok (by decide) (as := [.inr (.inr (some 184)), .inl a1, .inl a2, .inl a3, .inl a4]) (w := w) ⟨rfl, hb_mk (lo := 2147483648) (hi := 2147483653) (by have := h1.1; omega) (by have := h1.2; omega), hb_mk (lo := 2147483650) (hi := 2147483651) (by have := h2.1; omega) (by have := h2.2; omega), sv_in_top _, hb_mk (lo := 2147483648) (hi := 2147483653) (by have := h4.1; omega) (by have := h4.2; omega), trivial⟩ (fun f hf => by
    cases hf) hG
  have ew : w' = w := Prod.ext (funext fun k => funext fun i => (hF k i (fun ⟨r, z, _⟩ => by cases z)).1) (funext fun k => funext fun i => (hF k i (fun ⟨r, z, _⟩ => by cases z)).2)
  subst ew
  simp only [sm_261_2156a100, List.mem_cons, List.not_mem_nil, or_false] at hq
  rcases hq with rfl | rfl
  · obtain ⟨x, rfl, hx⟩ := wk_int hr
    have hx := hb_in hx
    exact ⟨x, hC, Or.inl (by omega)⟩
  · obtain ⟨x, rfl, hx⟩ := wk_int hr
    have hx := hb_in hx
    exact ⟨x, hC, Or.inr ((by omega))⟩
set_option maxRecDepth 100000 in
theorem xs_261_2e342ff3 {a1 : Int32} {a2 : Int32} {a3 : Int32} {a4 : Int32} {w : cm_W} (h1 : 0 ≤ a1.toInt ∧ a1.toInt ≤ 5) (h2 : 4 ≤ a2.toInt ∧ a2.toInt ≤ 7) (hG : sv_w sg w) : ∃ x : Int32, cm_C 2 261 [.inr (.inr (some 184)), .inl a1, .inl a2, .inl a3, .inl a4] w (some (.inl x), w) ∧ ((x.toInt = 1) ∨ (x.toInt = 0)) := by
  obtain ⟨r, w', hC, hG', hF, q, hq, hr, hp, hs⟩ := wk_use (d := 2) sm_261_2e342ff3_ok (by decide) (as := [.inr (.inr (some 184)), .inl a1, .inl a2, .inl a3, .inl a4]) (w := w) ⟨rfl, hb_mk (lo := 2147483648) (hi := 2147483653) (by have := h1.1; omega) (by have := h1.2; omega), hb_mk (lo := 2147483652) (hi := 2147483655) (by have := h2.1; omega) (by have := h2.2; omega), sv_in_top _, sv_in_top _, trivial⟩ (fun f hf => by
    cases hf) hG
  have ew : w' = w := Prod.ext (funext fun k => funext fun i => (hF k i (fun ⟨r, z, _⟩ => by cases z)).1) (funext fun k => funext fun i => (hF k i (fun ⟨r, z, _⟩ => by cases z)).2)
  subst ew
  simp only [sm_261_2e342ff3, List.mem_cons, List.not_mem_nil, or_false] at hq
  rcases hq with rfl | rfl
  · obtain ⟨x, rfl, hx⟩ := wk_int hr
    have hx := hb_in hx
    exact ⟨x, hC, Or.inl (by omega)⟩
  · obtain ⟨x, rfl, hx⟩ := wk_int hr
    have hx := hb_in hx
    exact ⟨x, hC, Or.inr ((by omega))⟩
set_option maxRecDepth 100000 in
theorem xd_a45d60f5 : decode (ia_code 266) 4 = .ok (.iload_n 3, 1) := fdd_d (by decide +kernel)
set_option maxRecDepth 100000 in
theorem xd_228d239c : decode (ia_code 266) 5 = .ok (.aload_n 0, 1) := fdd_d (by decide +kernel)
set_option maxRecDepth 100000 in
theorem xd_3e5cda25 : decode (ia_code 266) 6 = .ok (.getfield 33, 3) := fdd_d (by decide +kernel)
set_option maxRecDepth 100000 in
theorem xf_8d0de844 : wk_gf 266 33 184 6 (186 + 3) = true := by decide +kernel
set_option maxRecDepth 100000 in
theorem xd_b78dc282 : decode (ia_code 266) 9 = .ok (.bipush 120, 2) := fdd_d (by decide +kernel)
set_option maxRecDepth 100000 in
theorem xd_fd49e44b : decode (ia_code 266) 11 = .ok (.iaload, 1) := fdd_d (by decide +kernel)
set_option maxRecDepth 100000 in
theorem xf_31d67ad9 : wk_ar 186 50 301 = true := by decide +kernel
set_option maxRecDepth 100000 in
theorem xd_a74ba16b : decode (ia_code 266) 12 = .ok (.if_icmp .ge 198, 3) := fdd_d (by decide +kernel)
set_option maxRecDepth 100000 in
theorem xd_7da6d7c1 : decode (ia_code 266) 210 = .ok (.aload_n 0, 1) := fdd_d (by decide +kernel)
set_option maxRecDepth 100000 in
theorem xd_7138468c : decode (ia_code 266) 211 = .ok (.getfield 83, 3) := fdd_d (by decide +kernel)
set_option maxRecDepth 100000 in
theorem xf_381e4419 : wk_gf 266 83 184 44 (200 + 3) = true := by decide +kernel
set_option maxRecDepth 100000 in
theorem xd_05d9dda6 : decode (ia_code 266) 214 = .ok (.iconst 0, 1) := fdd_d (by decide +kernel)
set_option maxRecDepth 100000 in
theorem xd_5c3b48b5 : decode (ia_code 266) 215 = .ok (.baload, 1) := fdd_d (by decide +kernel)
set_option maxRecDepth 100000 in
theorem xf_e8fbc76a : wk_ar 200 53 45 = true := by decide +kernel
set_option maxRecDepth 100000 in
theorem xd_83371314 : decode (ia_code 266) 216 = .ok (.ireturn, 1) := fdd_d (by decide +kernel)
set_option maxRecDepth 100000 in
theorem xg_165287b2 : sv_g sg 200 0 = (2147483648, 2147483649) := by decide +kernel
set_option maxRecDepth 100000 in
theorem xr_40eb8c01 : ia_ret 266 = some .boolean := by decide +kernel
set_option maxRecDepth 100000 in
theorem xd_e07d5c3e : decode (ia_code 266) 15 = .ok (.bipush 121, 2) := fdd_d (by decide +kernel)
set_option maxRecDepth 100000 in
theorem xd_036dbfba : decode (ia_code 266) 17 = .ok (.iconst 3, 1) := fdd_d (by decide +kernel)
set_option maxRecDepth 100000 in
theorem xd_84ca9ee4 : decode (ia_code 266) 18 = .ok (.iload_n 3, 1) := fdd_d (by decide +kernel)
set_option maxRecDepth 100000 in
theorem xd_e75d5f5b : decode (ia_code 266) 19 = .ok (.imul, 1) := fdd_d (by decide +kernel)
set_option maxRecDepth 100000 in
theorem xd_83523194 : decode (ia_code 266) 20 = .ok (.iadd, 1) := fdd_d (by decide +kernel)
set_option maxRecDepth 100000 in
theorem xd_f5b46ea7 : decode (ia_code 266) 21 = .ok (.istore 4, 2) := fdd_d (by decide +kernel)
set_option maxRecDepth 100000 in
theorem xm_53568ad6 : ia_maxL 266 = 5 := by decide +kernel
set_option maxRecDepth 100000 in
theorem xd_b72be46a : decode (ia_code 266) 23 = .ok (.aload_n 0, 1) := fdd_d (by decide +kernel)
set_option maxRecDepth 100000 in
theorem xd_82071450 : decode (ia_code 266) 24 = .ok (.getfield 33, 3) := fdd_d (by decide +kernel)
set_option maxRecDepth 100000 in
theorem xd_0f9aad27 : decode (ia_code 266) 27 = .ok (.iload 4, 2) := fdd_d (by decide +kernel)
set_option maxRecDepth 100000 in
theorem xd_1b8cb01a : decode (ia_code 266) 29 = .ok (.iaload, 1) := fdd_d (by decide +kernel)
set_option maxRecDepth 100000 in
theorem xd_4067399a : decode (ia_code 266) 30 = .ok (.bipush 20, 2) := fdd_d (by decide +kernel)
set_option maxRecDepth 100000 in
theorem xd_43753cc6 : decode (ia_code 266) 32 = .ok (.if_icmp .ne 30, 3) := fdd_d (by decide +kernel)
set_option maxRecDepth 100000 in
theorem xd_dbc4f337 : decode (ia_code 266) 35 = .ok (.aload_n 0, 1) := fdd_d (by decide +kernel)
set_option maxRecDepth 100000 in
theorem xd_9fbb6459 : decode (ia_code 266) 36 = .ok (.getfield 83, 3) := fdd_d (by decide +kernel)
set_option maxRecDepth 100000 in
theorem xd_fbe2918f : decode (ia_code 266) 39 = .ok (.iload_n 2, 1) := fdd_d (by decide +kernel)
set_option maxRecDepth 100000 in
theorem xd_875b99dd : decode (ia_code 266) 40 = .ok (.iconst 1, 1) := fdd_d (by decide +kernel)
set_option maxRecDepth 100000 in
theorem xd_4657251f : decode (ia_code 266) 41 = .ok (.isub, 1) := fdd_d (by decide +kernel)
set_option maxRecDepth 100000 in
theorem xd_9c655cee : decode (ia_code 266) 42 = .ok (.aload_n 0, 1) := fdd_d (by decide +kernel)
set_option maxRecDepth 100000 in
theorem xd_194ec58a : decode (ia_code 266) 43 = .ok (.getfield 83, 3) := fdd_d (by decide +kernel)
set_option maxRecDepth 100000 in
theorem xd_bcfa7d70 : decode (ia_code 266) 46 = .ok (.iload_n 2, 1) := fdd_d (by decide +kernel)
set_option maxRecDepth 100000 in
theorem xd_e282a79d : decode (ia_code 266) 47 = .ok (.iconst 1, 1) := fdd_d (by decide +kernel)
set_option maxRecDepth 100000 in
theorem xd_be543df2 : decode (ia_code 266) 48 = .ok (.isub, 1) := fdd_d (by decide +kernel)
set_option maxRecDepth 100000 in
theorem xd_15514e2b : decode (ia_code 266) 49 = .ok (.baload, 1) := fdd_d (by decide +kernel)
set_option maxRecDepth 100000 in
theorem xd_0bbe5351 : decode (ia_code 266) 50 = .ok (.ifCond .ne 7, 3) := fdd_d (by decide +kernel)
set_option maxRecDepth 100000 in
theorem xd_449164f9 : decode (ia_code 266) 57 = .ok (.iconst 0, 1) := fdd_d (by decide +kernel)
set_option maxRecDepth 100000 in
theorem xd_e339d629 : decode (ia_code 266) 58 = .ok (.bastore, 1) := fdd_d (by decide +kernel)
set_option maxRecDepth 100000 in
theorem xh_c2512df3 : ∀ i, i < 45 → sv_g sg 200 i = (2147483648, 2147483649) := by decide +kernel
set_option maxRecDepth 100000 in
theorem xd_0b363478 : decode (ia_code 266) 59 = .ok (.goto 145, 3) := fdd_d (by decide +kernel)
set_option maxRecDepth 100000 in
theorem xd_37db177f : decode (ia_code 266) 204 = .ok (.iinc 3 1, 3) := fdd_d (by decide +kernel)
set_option maxRecDepth 100000 in
theorem xd_09c8c9e6 : decode (ia_code 266) 207 = .ok (.goto (-203), 3) := fdd_d (by decide +kernel)
set_option maxRecDepth 100000 in
theorem xd_2550de49 : decode (ia_code 266) 53 = .ok (.iconst 1, 1) := fdd_d (by decide +kernel)
set_option maxRecDepth 100000 in
theorem xd_734e85d0 : decode (ia_code 266) 54 = .ok (.goto 4, 3) := fdd_d (by decide +kernel)
set_option maxRecDepth 100000 in
theorem xd_455e90e1 : decode (ia_code 266) 62 = .ok (.aload_n 0, 1) := fdd_d (by decide +kernel)
set_option maxRecDepth 100000 in
theorem xd_66c37e26 : decode (ia_code 266) 63 = .ok (.getfield 33, 3) := fdd_d (by decide +kernel)
set_option maxRecDepth 100000 in
theorem xd_cce1bdb9 : decode (ia_code 266) 66 = .ok (.iload 4, 2) := fdd_d (by decide +kernel)
set_option maxRecDepth 100000 in
theorem xd_6c128fe7 : decode (ia_code 266) 68 = .ok (.iaload, 1) := fdd_d (by decide +kernel)
set_option maxRecDepth 100000 in
theorem xd_0eee42a0 : decode (ia_code 266) 69 = .ok (.bipush 21, 2) := fdd_d (by decide +kernel)
set_option maxRecDepth 100000 in
theorem xd_e949d647 : decode (ia_code 266) 71 = .ok (.if_icmp .eq 15, 3) := fdd_d (by decide +kernel)
set_option maxRecDepth 100000 in
theorem xd_3569b868 : decode (ia_code 266) 86 = .ok (.iinc 2 (-1), 3) := fdd_d (by decide +kernel)
set_option maxRecDepth 100000 in
theorem xd_51328414 : decode (ia_code 266) 89 = .ok (.aload_n 0, 1) := fdd_d (by decide +kernel)
set_option maxRecDepth 100000 in
theorem xd_b4036e2c : decode (ia_code 266) 90 = .ok (.getfield 83, 3) := fdd_d (by decide +kernel)
set_option maxRecDepth 100000 in
theorem xd_1dfbf1f1 : decode (ia_code 266) 93 = .ok (.iload_n 2, 1) := fdd_d (by decide +kernel)
set_option maxRecDepth 100000 in
theorem xd_406c02bc : decode (ia_code 266) 94 = .ok (.iconst 1, 1) := fdd_d (by decide +kernel)
set_option maxRecDepth 100000 in
theorem xd_7ad46226 : decode (ia_code 266) 95 = .ok (.isub, 1) := fdd_d (by decide +kernel)
set_option maxRecDepth 100000 in
theorem xd_a6173abb : decode (ia_code 266) 96 = .ok (.aload_n 0, 1) := fdd_d (by decide +kernel)
set_option maxRecDepth 100000 in
theorem xd_10946247 : decode (ia_code 266) 97 = .ok (.getfield 33, 3) := fdd_d (by decide +kernel)
set_option maxRecDepth 100000 in
theorem xd_55b4f58a : decode (ia_code 266) 100 = .ok (.iload 4, 2) := fdd_d (by decide +kernel)
set_option maxRecDepth 100000 in
theorem xd_e33d3b0f : decode (ia_code 266) 102 = .ok (.iaload, 1) := fdd_d (by decide +kernel)
set_option maxRecDepth 100000 in
theorem xd_826795d2 : decode (ia_code 266) 103 = .ok (.bipush 21, 2) := fdd_d (by decide +kernel)
set_option maxRecDepth 100000 in
theorem xd_01f28ac5 : decode (ia_code 266) 105 = .ok (.if_icmp .ne 31, 3) := fdd_d (by decide +kernel)
set_option maxRecDepth 100000 in
theorem xd_7cbadfe7 : decode (ia_code 266) 136 = .ok (.aload_n 0, 1) := fdd_d (by decide +kernel)
set_option maxRecDepth 100000 in
theorem xd_bc3d4c86 : decode (ia_code 266) 137 = .ok (.getfield 83, 3) := fdd_d (by decide +kernel)
set_option maxRecDepth 100000 in
theorem xd_80ab1ae7 : decode (ia_code 266) 140 = .ok (.iload_n 2, 1) := fdd_d (by decide +kernel)
set_option maxRecDepth 100000 in
theorem xd_b001e1b9 : decode (ia_code 266) 141 = .ok (.iconst 1, 1) := fdd_d (by decide +kernel)
set_option maxRecDepth 100000 in
theorem xd_d63aab85 : decode (ia_code 266) 142 = .ok (.isub, 1) := fdd_d (by decide +kernel)
set_option maxRecDepth 100000 in
theorem xd_6c43ff05 : decode (ia_code 266) 143 = .ok (.baload, 1) := fdd_d (by decide +kernel)
set_option maxRecDepth 100000 in
theorem xd_5ca8e5d1 : decode (ia_code 266) 144 = .ok (.ifCond .ne 12, 3) := fdd_d (by decide +kernel)
set_option maxRecDepth 100000 in
theorem xd_4eab352d : decode (ia_code 266) 156 = .ok (.iconst 1, 1) := fdd_d (by decide +kernel)
set_option maxRecDepth 100000 in
theorem xd_f2e0d90a : decode (ia_code 266) 157 = .ok (.goto 4, 3) := fdd_d (by decide +kernel)
set_option maxRecDepth 100000 in
theorem xd_7df0e6f4 : decode (ia_code 266) 161 = .ok (.bastore, 1) := fdd_d (by decide +kernel)
set_option maxRecDepth 100000 in
theorem xd_ff8725ea : decode (ia_code 266) 162 = .ok (.goto 42, 3) := fdd_d (by decide +kernel)
set_option maxRecDepth 100000 in
theorem xd_d6d10244 : decode (ia_code 266) 147 = .ok (.aload_n 0, 1) := fdd_d (by decide +kernel)
set_option maxRecDepth 100000 in
theorem xd_86a558bf : decode (ia_code 266) 148 = .ok (.getfield 83, 3) := fdd_d (by decide +kernel)
set_option maxRecDepth 100000 in
theorem xd_9afd9514 : decode (ia_code 266) 151 = .ok (.iload_n 2, 1) := fdd_d (by decide +kernel)
set_option maxRecDepth 100000 in
theorem xd_96fe47dd : decode (ia_code 266) 152 = .ok (.baload, 1) := fdd_d (by decide +kernel)
set_option maxRecDepth 100000 in
theorem xd_c640f5d8 : decode (ia_code 266) 153 = .ok (.ifCond .eq 7, 3) := fdd_d (by decide +kernel)
set_option maxRecDepth 100000 in
theorem xd_77df7f20 : decode (ia_code 266) 160 = .ok (.iconst 0, 1) := fdd_d (by decide +kernel)
set_option maxRecDepth 100000 in
theorem xd_c9d74793 : decode (ia_code 266) 108 = .ok (.aload_n 0, 1) := fdd_d (by decide +kernel)
set_option maxRecDepth 100000 in
theorem xd_09ba5e6f : decode (ia_code 266) 109 = .ok (.getfield 83, 3) := fdd_d (by decide +kernel)
set_option maxRecDepth 100000 in
theorem xd_851e3276 : decode (ia_code 266) 112 = .ok (.iload_n 2, 1) := fdd_d (by decide +kernel)
set_option maxRecDepth 100000 in
theorem xd_057e637e : decode (ia_code 266) 113 = .ok (.iconst 1, 1) := fdd_d (by decide +kernel)
set_option maxRecDepth 100000 in
theorem xd_e6cc9aba : decode (ia_code 266) 114 = .ok (.isub, 1) := fdd_d (by decide +kernel)
set_option maxRecDepth 100000 in
theorem xd_6543e5f5 : decode (ia_code 266) 115 = .ok (.baload, 1) := fdd_d (by decide +kernel)
set_option maxRecDepth 100000 in
theorem xd_09f6ddf6 : decode (ia_code 266) 116 = .ok (.ifCond .eq 16, 3) := fdd_d (by decide +kernel)
set_option maxRecDepth 100000 in
theorem xd_c2a0fde7 : decode (ia_code 266) 132 = .ok (.iconst 0, 1) := fdd_d (by decide +kernel)
set_option maxRecDepth 100000 in
theorem xd_b73daa08 : decode (ia_code 266) 133 = .ok (.goto 28, 3) := fdd_d (by decide +kernel)
set_option maxRecDepth 100000 in
theorem xd_d381c860 : decode (ia_code 266) 119 = .ok (.aload_n 0, 1) := fdd_d (by decide +kernel)
set_option maxRecDepth 100000 in
theorem xd_957016b9 : decode (ia_code 266) 120 = .ok (.getfield 83, 3) := fdd_d (by decide +kernel)
set_option maxRecDepth 100000 in
theorem xd_4673718a : decode (ia_code 266) 123 = .ok (.iload_n 2, 1) := fdd_d (by decide +kernel)
set_option maxRecDepth 100000 in
theorem xd_7b3a5c50 : decode (ia_code 266) 124 = .ok (.baload, 1) := fdd_d (by decide +kernel)
set_option maxRecDepth 100000 in
theorem xd_2b4b6eef : decode (ia_code 266) 125 = .ok (.ifCond .eq 7, 3) := fdd_d (by decide +kernel)
set_option maxRecDepth 100000 in
theorem xd_f3a0d103 : decode (ia_code 266) 128 = .ok (.iconst 1, 1) := fdd_d (by decide +kernel)
set_option maxRecDepth 100000 in
theorem xd_e0cf0dc7 : decode (ia_code 266) 129 = .ok (.goto 32, 3) := fdd_d (by decide +kernel)
set_option maxRecDepth 100000 in
theorem xd_29b187bc : decode (ia_code 266) 74 = .ok (.aload_n 0, 1) := fdd_d (by decide +kernel)
set_option maxRecDepth 100000 in
theorem xd_ea05b417 : decode (ia_code 266) 75 = .ok (.getfield 33, 3) := fdd_d (by decide +kernel)
set_option maxRecDepth 100000 in
theorem xd_0806d5c9 : decode (ia_code 266) 78 = .ok (.iload 4, 2) := fdd_d (by decide +kernel)
set_option maxRecDepth 100000 in
theorem xd_220655e5 : decode (ia_code 266) 80 = .ok (.iaload, 1) := fdd_d (by decide +kernel)
set_option maxRecDepth 100000 in
theorem xd_2bc715b8 : decode (ia_code 266) 81 = .ok (.bipush 22, 2) := fdd_d (by decide +kernel)
set_option maxRecDepth 100000 in
theorem xd_5913ccb6 : decode (ia_code 266) 83 = .ok (.if_icmp .ne 82, 3) := fdd_d (by decide +kernel)
set_option maxRecDepth 100000 in
theorem xd_e27c1da2 : decode (ia_code 266) 165 = .ok (.aload_n 0, 1) := fdd_d (by decide +kernel)
set_option maxRecDepth 100000 in
theorem xd_d43fecc1 : decode (ia_code 266) 166 = .ok (.getfield 83, 3) := fdd_d (by decide +kernel)
set_option maxRecDepth 100000 in
theorem xd_c25a7f1a : decode (ia_code 266) 169 = .ok (.iload_n 2, 1) := fdd_d (by decide +kernel)
set_option maxRecDepth 100000 in
theorem xd_f87633c2 : decode (ia_code 266) 170 = .ok (.aload_n 0, 1) := fdd_d (by decide +kernel)
set_option maxRecDepth 100000 in
theorem xd_046623cb : decode (ia_code 266) 171 = .ok (.iload_n 1, 1) := fdd_d (by decide +kernel)
set_option maxRecDepth 100000 in
theorem xd_15e0e02b : decode (ia_code 266) 172 = .ok (.aload_n 0, 1) := fdd_d (by decide +kernel)
set_option maxRecDepth 100000 in
theorem xd_07d36060 : decode (ia_code 266) 173 = .ok (.getfield 33, 3) := fdd_d (by decide +kernel)
set_option maxRecDepth 100000 in
theorem xd_c650ce0c : decode (ia_code 266) 176 = .ok (.iload 4, 2) := fdd_d (by decide +kernel)
set_option maxRecDepth 100000 in
theorem xd_ddcf1d69 : decode (ia_code 266) 178 = .ok (.iaload, 1) := fdd_d (by decide +kernel)
set_option maxRecDepth 100000 in
theorem xd_63bc9a30 : decode (ia_code 266) 179 = .ok (.aload_n 0, 1) := fdd_d (by decide +kernel)
set_option maxRecDepth 100000 in
theorem xd_bfd480a9 : decode (ia_code 266) 180 = .ok (.getfield 33, 3) := fdd_d (by decide +kernel)
set_option maxRecDepth 100000 in
theorem xd_97e95169 : decode (ia_code 266) 183 = .ok (.iload 4, 2) := fdd_d (by decide +kernel)
set_option maxRecDepth 100000 in
theorem xd_ec45900c : decode (ia_code 266) 185 = .ok (.iconst 1, 1) := fdd_d (by decide +kernel)
set_option maxRecDepth 100000 in
theorem xd_8ad0c59d : decode (ia_code 266) 186 = .ok (.iadd, 1) := fdd_d (by decide +kernel)
set_option maxRecDepth 100000 in
theorem xd_ed45e266 : decode (ia_code 266) 187 = .ok (.iaload, 1) := fdd_d (by decide +kernel)
set_option maxRecDepth 100000 in
theorem xd_1bda7b2d : decode (ia_code 266) 188 = .ok (.aload_n 0, 1) := fdd_d (by decide +kernel)
set_option maxRecDepth 100000 in
theorem xd_36548310 : decode (ia_code 266) 189 = .ok (.getfield 33, 3) := fdd_d (by decide +kernel)
set_option maxRecDepth 100000 in
theorem xd_1f1bb637 : decode (ia_code 266) 192 = .ok (.iload 4, 2) := fdd_d (by decide +kernel)
set_option maxRecDepth 100000 in
theorem xd_27be64c8 : decode (ia_code 266) 194 = .ok (.iconst 2, 1) := fdd_d (by decide +kernel)
set_option maxRecDepth 100000 in
theorem xd_b7b498a7 : decode (ia_code 266) 195 = .ok (.iadd, 1) := fdd_d (by decide +kernel)
set_option maxRecDepth 100000 in
theorem xd_17f85abe : decode (ia_code 266) 196 = .ok (.iaload, 1) := fdd_d (by decide +kernel)
set_option maxRecDepth 100000 in
theorem xl_a5417b08 : ia_pl (ia_cls 266) 440 = some (1, 261, 0, 0, 2064) := by decide +kernel
set_option maxRecDepth 100000 in
theorem xn_9dcba442 : ia_na 261 = 5 := by decide +kernel
set_option maxRecDepth 100000 in
theorem xc_749423d1 : ia_mc 261 = 0 ∧ ia_ms 261 = 0 := ⟨by decide +kernel, by decide +kernel⟩
set_option maxRecDepth 100000 in
theorem xv_92957425 : cm_rcv 261 [.inr (.inr (some 184))] = true := by decide +kernel
set_option maxRecDepth 100000 in
theorem xd_437a3c53 : decode (ia_code 266) 197 = .ok (.invokevirtual 440, 3) := fdd_d (by decide +kernel)
set_option maxRecDepth 100000 in
theorem xd_e63e06d7 : decode (ia_code 266) 200 = .ok (.bastore, 1) := fdd_d (by decide +kernel)
set_option maxRecDepth 100000 in
theorem xd_da25eb0b : decode (ia_code 266) 201 = .ok (.iinc 2 1, 3) := fdd_d (by decide +kernel)
set_option maxRecDepth 100000 in
theorem xd_3c8dec5f : decode (ia_code 266) 0 = .ok (.iconst 0, 1) := fdd_d (by decide +kernel)
set_option maxRecDepth 100000 in
theorem xd_4a2c9725 : decode (ia_code 266) 1 = .ok (.istore_n 2, 1) := fdd_d (by decide +kernel)
set_option maxRecDepth 100000 in
theorem xd_12dd25df : decode (ia_code 266) 2 = .ok (.iconst 0, 1) := fdd_d (by decide +kernel)
set_option maxRecDepth 100000 in
theorem xd_ae77729a : decode (ia_code 266) 3 = .ok (.istore_n 3, 1) := fdd_d (by decide +kernel)
set_option maxRecDepth 100000 in
theorem xd_839af499 : decode (ia_code 139) 26 = .ok (.iload_n 3, 1) := fdd_d (by decide +kernel)
set_option maxRecDepth 100000 in
theorem xd_054ab7f0 : decode (ia_code 139) 27 = .ok (.aload_n 0, 1) := fdd_d (by decide +kernel)
set_option maxRecDepth 100000 in
theorem xd_d7c05758 : decode (ia_code 139) 28 = .ok (.getfield 33, 3) := fdd_d (by decide +kernel)
set_option maxRecDepth 100000 in
theorem xf_3f301a4d : wk_gf 139 33 184 6 (186 + 3) = true := by decide +kernel
set_option maxRecDepth 100000 in
theorem xd_5b536dba : decode (ia_code 139) 31 = .ok (.iconst 0, 1) := fdd_d (by decide +kernel)
set_option maxRecDepth 100000 in
theorem xd_f9509438 : decode (ia_code 139) 32 = .ok (.iaload, 1) := fdd_d (by decide +kernel)
set_option maxRecDepth 100000 in
theorem xd_355c7124 : decode (ia_code 139) 33 = .ok (.if_icmp .ge 30, 3) := fdd_d (by decide +kernel)
set_option maxRecDepth 100000 in
theorem xd_0b7372e1 : decode (ia_code 139) 63 = .ok (.iload_n 1, 1) := fdd_d (by decide +kernel)
set_option maxRecDepth 100000 in
theorem xd_9c4958cc : decode (ia_code 139) 64 = .ok (.iconst (-1), 1) := fdd_d (by decide +kernel)
set_option maxRecDepth 100000 in
theorem xd_381feec9 : decode (ia_code 139) 65 = .ok (.if_icmp .ne 7, 3) := fdd_d (by decide +kernel)
set_option maxRecDepth 100000 in
theorem xd_108f92fd : decode (ia_code 139) 72 = .ok (.iconst (-1), 1) := fdd_d (by decide +kernel)
set_option maxRecDepth 100000 in
theorem xd_8bdf926c : decode (ia_code 139) 73 = .ok (.ireturn, 1) := fdd_d (by decide +kernel)
set_option maxRecDepth 100000 in
theorem xr_901d66f3 : ia_ret 139 = some .int := by decide +kernel
set_option maxRecDepth 100000 in
theorem xd_3a8f722a : decode (ia_code 139) 68 = .ok (.iload_n 2, 1) := fdd_d (by decide +kernel)
set_option maxRecDepth 100000 in
theorem xd_f1753d5a : decode (ia_code 139) 69 = .ok (.goto 4, 3) := fdd_d (by decide +kernel)
set_option maxRecDepth 100000 in
theorem xd_1f1c3803 : decode (ia_code 139) 36 = .ok (.aload_n 0, 1) := fdd_d (by decide +kernel)
set_option maxRecDepth 100000 in
theorem xd_99cc7b6a : decode (ia_code 139) 37 = .ok (.iload_n 3, 1) := fdd_d (by decide +kernel)
set_option maxRecDepth 100000 in
theorem xl_d08671fa : ia_pl (ia_cls 139) 444 = some (1, 266, 0, 0, 2060) := by decide +kernel
set_option maxRecDepth 100000 in
theorem xn_b18fedf1 : ia_na 266 = 2 := by decide +kernel
set_option maxRecDepth 100000 in
theorem xc_b00d676f : ia_mc 266 = 0 ∧ ia_ms 266 = 0 := ⟨by decide +kernel, by decide +kernel⟩
set_option maxRecDepth 100000 in
theorem xv_124886fc : cm_rcv 266 [.inr (.inr (some 184))] = true := by decide +kernel
set_option maxRecDepth 100000 in
theorem xd_e2e93301 : decode (ia_code 139) 38 = .ok (.invokevirtual 444, 3) := fdd_d (by decide +kernel)
set_option maxRecDepth 100000 in
theorem xd_ce7c3324 : decode (ia_code 139) 41 = .ok (.ifCond .ne 6, 3) := fdd_d (by decide +kernel)
set_option maxRecDepth 100000 in
theorem xd_95b465ad : decode (ia_code 139) 47 = .ok (.iload_n 2, 1) := fdd_d (by decide +kernel)
set_option maxRecDepth 100000 in
theorem xd_a414c4f5 : decode (ia_code 139) 48 = .ok (.iload_n 1, 1) := fdd_d (by decide +kernel)
set_option maxRecDepth 100000 in
theorem xd_e277fa5c : decode (ia_code 139) 49 = .ok (.if_icmp .ne 5, 3) := fdd_d (by decide +kernel)
set_option maxRecDepth 100000 in
theorem xd_f216c3b9 : decode (ia_code 139) 54 = .ok (.iinc 2 1, 3) := fdd_d (by decide +kernel)
set_option maxRecDepth 100000 in
theorem xm_c724a6bf : ia_maxL 139 = 4 := by decide +kernel
set_option maxRecDepth 100000 in
theorem xd_6d19654d : decode (ia_code 139) 57 = .ok (.iinc 3 1, 3) := fdd_d (by decide +kernel)
set_option maxRecDepth 100000 in
theorem xd_cb80fc93 : decode (ia_code 139) 60 = .ok (.goto (-34), 3) := fdd_d (by decide +kernel)
set_option maxRecDepth 100000 in
theorem xd_b2de627d : decode (ia_code 139) 52 = .ok (.iload_n 3, 1) := fdd_d (by decide +kernel)
set_option maxRecDepth 100000 in
theorem xd_a58f5bec : decode (ia_code 139) 53 = .ok (.ireturn, 1) := fdd_d (by decide +kernel)
set_option maxRecDepth 100000 in
theorem xd_cb98344f : decode (ia_code 139) 44 = .ok (.goto 13, 3) := fdd_d (by decide +kernel)
set_option maxRecDepth 100000 in
theorem xd_395b4962 : decode (ia_code 139) 0 = .ok (.aload_n 0, 1) := fdd_d (by decide +kernel)
set_option maxRecDepth 100000 in
theorem xd_b7e3fa0a : decode (ia_code 139) 1 = .ok (.iconst 0, 1) := fdd_d (by decide +kernel)
set_option maxRecDepth 100000 in
theorem xd_b6a987ed : decode (ia_code 139) 2 = .ok (.putfield 1, 3) := fdd_d (by decide +kernel)
set_option maxRecDepth 100000 in
theorem xf_1b429e7a : wk_pf 139 1 184 0 0 = true := by decide +kernel
set_option maxRecDepth 100000 in
theorem xg_59f145a5 : sv_g sg 184 0 = (2147483648, 2147483649) := by decide +kernel
set_option maxRecDepth 100000 in
theorem xd_a2740225 : decode (ia_code 139) 5 = .ok (.aload_n 0, 1) := fdd_d (by decide +kernel)
set_option maxRecDepth 100000 in
theorem xd_47325f73 : decode (ia_code 139) 6 = .ok (.getfield 33, 3) := fdd_d (by decide +kernel)
set_option maxRecDepth 100000 in
theorem xd_05b0308b : decode (ia_code 139) 9 = .ok (.bipush 120, 2) := fdd_d (by decide +kernel)
set_option maxRecDepth 100000 in
theorem xd_b23dd88f : decode (ia_code 139) 11 = .ok (.iaload, 1) := fdd_d (by decide +kernel)
set_option maxRecDepth 100000 in
theorem xd_422db432 : decode (ia_code 139) 12 = .ok (.ifCond .eq 8, 3) := fdd_d (by decide +kernel)
set_option maxRecDepth 100000 in
theorem xd_4d6084e9 : decode (ia_code 139) 20 = .ok (.iconst (-1), 1) := fdd_d (by decide +kernel)
set_option maxRecDepth 100000 in
theorem xd_249264d1 : decode (ia_code 139) 21 = .ok (.ireturn, 1) := fdd_d (by decide +kernel)
set_option maxRecDepth 100000 in
theorem xd_d7a137ec : decode (ia_code 139) 15 = .ok (.iload_n 1, 1) := fdd_d (by decide +kernel)
set_option maxRecDepth 100000 in
theorem xd_d4ec05b7 : decode (ia_code 139) 16 = .ok (.iconst (-1), 1) := fdd_d (by decide +kernel)
set_option maxRecDepth 100000 in
theorem xd_84816353 : decode (ia_code 139) 17 = .ok (.if_icmp .ge 5, 3) := fdd_d (by decide +kernel)
set_option maxRecDepth 100000 in
theorem xd_f9582a2e : decode (ia_code 139) 22 = .ok (.iconst 0, 1) := fdd_d (by decide +kernel)
set_option maxRecDepth 100000 in
theorem xd_0e0f7dc2 : decode (ia_code 139) 23 = .ok (.istore_n 2, 1) := fdd_d (by decide +kernel)
set_option maxRecDepth 100000 in
theorem xd_8ba970ae : decode (ia_code 139) 24 = .ok (.iconst 0, 1) := fdd_d (by decide +kernel)
set_option maxRecDepth 100000 in
theorem xd_83520622 : decode (ia_code 139) 25 = .ok (.istore_n 3, 1) := fdd_d (by decide +kernel)
set_option maxRecDepth 100000 in
theorem xg_955c97cf : sv_g sg 186 0 = (2147483648, 2147483654) := by decide +kernel
theorem hil_ok {w : cm_W} {m v g n : Int32} (hm : 0 ≤ m.toInt ∧ m.toInt ≤ 5) (h0 : 0 ≤ v.toInt) (h7 : v.toInt ≤ 7) (hn : v.toInt = 2 ∨ v.toInt = 3 → 0 ≤ n.toInt ∧ n.toInt ≤ 5) (hG : sv_w sg w) : ∃ x : Int32, cm_C 3 261 [.inr (.inr (some 184)), .inl m, .inl v, .inl g, .inl n] w (some (.inl x), w) ∧ 0 ≤ x.toInt ∧ x.toInt ≤ 1 := by
  rcases Int.lt_or_le v.toInt 2 with hv | hv
  · obtain ⟨x, hC, hx⟩ := xs_261_7fb391bc (a1 := m) (a2 := v) (a3 := g) (a4 := n) hm ⟨by omega, by omega⟩ hG
    exact ⟨x, cm_C_mono (by decide) hC, by omega, by omega⟩
  rcases Int.lt_or_le v.toInt 4 with hv | hv
  · obtain ⟨x, hC, hx⟩ := xs_261_2156a100 (a1 := m) (a2 := v) (a3 := g) (a4 := n) hm ⟨by omega, by omega⟩ (hn (by omega)) hG
    exact ⟨x, cm_C_mono (by decide) hC, by omega, by omega⟩
  · obtain ⟨x, hC, hx⟩ := xs_261_2e342ff3 (a1 := m) (a2 := v) (a3 := g) (a4 := n) hm ⟨by omega, by omega⟩ hG
    exact ⟨x, cm_C_mono (by decide) hC, by omega, by omega⟩
def jTr (w0 w : cm_W) : Prop := ∀ k i, k ≠ 200 → w.1 k i = w0.1 k i
theorem his_l (w0 : cm_W) (m : Int32) (hm : 0 ≤ m.toInt ∧ m.toInt ≤ 5) (c : Nat) (hc40 : c ≤ 40) (hc : (w0.1 186 120).toInt = (c : Int)) (ht : Nat → Nat) (hle : ∀ i, i ≤ c → ht i ≤ i) (hrow : ∀ i, i < c → jRow (fun j => w0.1 186 (121 + j)) i (ht i) (ht (i + 1))) (Q : cm_O → Prop) (hk : ∀ w x, jTr w0 w → sv_w sg w → 0 ≤ x.toInt → x.toInt ≤ 1 → Q (some (.inl x), w)) : ∀ (n i : Nat) (x z : Int32) (o4 : Option cm_V) (w : cm_W), n + i = c → x.toInt = (ht i : Int) → z.toInt = (i : Int) → jTr w0 w → sv_w sg w → cm_X (cm_C 3) 266 4 [some (.inr (.inr (some 184))), some (.inl m), some (.inl x), some (.inl z), o4] [] w Q := by
  intro n
  induction n with
  | zero =>
    intro i x z o4 w hi hx hz hT hG
    have e0 : (w.1 186 120).toInt = (c : Int) := by rw [hT 186 120 (by decide)]; exact hc
    refine wk_iload_n xd_a45d60f5 rfl ?_
    refine wk_aload_n xd_228d239c rfl ?_
    refine wk_getR xf_8d0de844 xd_3e5cda25 ?_
    refine wk_bipush xd_b78dc282 ?_
    refine aw_iaload (i := 120) xf_31d67ad9 (show (((Int8.ofInt 120).toInt32)).toInt = 120 from by decide) (by omega) (by omega) xd_fd49e44b ?_
    refine wk_icmp xd_a74ba16b (t := 210) rfl (fun h12_0 => ?_) (fun h12_0 => ?_)
    · have h12_0 := aw_ge_t (a := ((i : Int) : Int)) (b := ((w.1 186 120).toInt : Int)) hz rfl h12_0
      refine wk_aload_n xd_7da6d7c1 rfl ?_
      refine wk_getR xf_381e4419 xd_7138468c ?_
      refine wk_iconst xd_05d9dda6 ?_
      refine aw_baload (i := 0) xf_e8fbc76a (show ((Int32.ofInt 0)).toInt = 0 from by decide) (by omega) (by omega) xd_5c3b48b5 rfl ?_
      have hb := hG 200 0
      rw [xg_165287b2] at hb
      have hb := hb_in hb
      exact wk_ireturn xd_83371314 xr_40eb8c01 (aw_bit (by omega) (by omega)) (hk _ _ hT hG (by omega) (by omega))
    · have h12_0 := aw_ge_f (a := ((i : Int) : Int)) (b := ((w.1 186 120).toInt : Int)) hz rfl h12_0
      exfalso
      omega
  | succ n ih =>
    intro i x z o4 w hi hx hz hT hG
    have e0 : (w.1 186 120).toInt = (c : Int) := by rw [hT 186 120 (by decide)]; exact hc
    have r := hrow i (by omega)
    have hh := hle i (by omega)
    rw [show (fun j => w0.1 186 (121 + j)) = (fun j => w.1 186 (121 + j)) from funext fun j => (hT 186 (121 + j) (by decide)).symm] at r
    rcases r with ⟨a1, a2, a3⟩ | ⟨a1, a2, a3⟩ | ⟨a1, a2, a3, a4⟩
    · have a1 : (w.1 186 (121 + 3 * i)).toInt = 20 := a1
      refine wk_iload_n xd_a45d60f5 rfl ?_
      refine wk_aload_n xd_228d239c rfl ?_
      refine wk_getR xf_8d0de844 xd_3e5cda25 ?_
      refine wk_bipush xd_b78dc282 ?_
      refine aw_iaload (i := 120) xf_31d67ad9 (show (((Int8.ofInt 120).toInt32)).toInt = 120 from by decide) (by omega) (by omega) xd_fd49e44b ?_
      refine wk_icmp xd_a74ba16b (t := 210) rfl (fun h12_1 => ?_) (fun h12_1 => ?_)
      · have h12_1 := aw_ge_t (a := ((i : Int) : Int)) (b := ((w.1 186 120).toInt : Int)) hz rfl h12_1
        exfalso
        omega
      · have h12_1 := aw_ge_f (a := ((i : Int) : Int)) (b := ((w.1 186 120).toInt : Int)) hz rfl h12_1
        refine wk_bipush xd_e07d5c3e ?_
        refine wk_iconst xd_036dbfba ?_
        refine wk_iload_n xd_84ca9ee4 rfl ?_
        refine aw_imul (a := (3 : Int)) (b := ((i : Int) : Int)) (e := (3 * (i : Int) : Int)) xd_e75d5f5b (show ((Int32.ofInt 3)).toInt = 3 from by decide) hz (by omega) (by omega) (by omega) (fun v3_ p3_ => ?_)
        refine aw_iadd (a := (121 : Int)) (b := (3 * (i : Int) : Int)) (e := (3 * (i : Int) + 121 : Int)) xd_83523194 (show (((Int8.ofInt 121).toInt32)).toInt = 121 from by decide) p3_ (by omega) (by omega) (by omega) (fun v4_ p4_ => ?_)
        refine wk_istore xd_f5b46ea7 (by rw [xm_53568ad6]; rfl) rfl ?_
        refine wk_aload_n xd_b72be46a rfl ?_
        refine wk_getR xf_8d0de844 xd_82071450 ?_
        refine wk_iload xd_0f9aad27 rfl ?_
        refine aw_iaload (i := (121 + 3 * i)) xf_31d67ad9 p4_ (by omega) (by omega) xd_1b8cb01a ?_
        refine wk_bipush xd_4067399a ?_
        refine wk_icmp xd_43753cc6 (t := 62) rfl (fun h32_4 => ?_) (fun h32_4 => ?_)
        · have h32_4 := aw_ne_t (a := ((w.1 186 (121 + 3 * i)).toInt : Int)) (b := (20 : Int)) rfl (show (((Int8.ofInt 20).toInt32)).toInt = 20 from by decide) h32_4
          exfalso
          omega
        · have h32_4 := aw_ne_f (a := ((w.1 186 (121 + 3 * i)).toInt : Int)) (b := (20 : Int)) rfl (show (((Int8.ofInt 20).toInt32)).toInt = 20 from by decide) h32_4
          refine wk_aload_n xd_dbc4f337 rfl ?_
          refine wk_getR xf_381e4419 xd_9fbb6459 ?_
          refine wk_iload_n xd_fbe2918f rfl ?_
          refine wk_iconst xd_875b99dd ?_
          refine aw_isub (a := (((ht i) : Int) : Int)) (b := (1 : Int)) (e := (((ht i) : Int) + (-1) : Int)) xd_4657251f hx (show ((Int32.ofInt 1)).toInt = 1 from by decide) (by omega) (by omega) (by omega) (fun v6_ p6_ => ?_)
          refine wk_aload_n xd_9c655cee rfl ?_
          refine wk_getR xf_381e4419 xd_194ec58a ?_
          refine wk_iload_n xd_bcfa7d70 rfl ?_
          refine wk_iconst xd_e282a79d ?_
          refine aw_isub (a := (((ht i) : Int) : Int)) (b := (1 : Int)) (e := (((ht i) : Int) + (-1) : Int)) xd_be543df2 hx (show ((Int32.ofInt 1)).toInt = 1 from by decide) (by omega) (by omega) (by omega) (fun v7_ p7_ => ?_)
          refine aw_baload (i := ((ht i) - 1)) xf_e8fbc76a p7_ (by omega) (by omega) xd_15514e2b rfl ?_
          refine wk_if xd_0bbe5351 (t := 57) rfl (fun h50_7 => ?_) (fun h50_7 => ?_)
          · have h50_7 := aw_ne_t (a := ((w.1 200 ((ht i) - 1)).toInt : Int)) (b := (0 : Int)) rfl hb_z h50_7
            refine wk_iconst xd_449164f9 ?_
            refine aw_bastore (i := ((ht i) - 1)) xf_e8fbc76a p6_ (by omega) (by omega) xd_e339d629 rfl ?_
            have hG9_ : sv_w sg (cm_u1 w 200 ((ht i) - 1) (vp_nar .boolean (Int32.ofInt 0))) := sv_w_u1 hG (by rw [xh_c2512df3 ((ht i) - 1) (by omega)]; exact sv_bool _)
            refine wk_goto xd_0b363478 (t := 204) rfl ?_
            refine aw_iinc (a := ((i : Int) : Int)) (b := (1 : Int)) (e := ((i : Int) + 1 : Int)) xd_37db177f (by rw [xm_53568ad6]; rfl) rfl rfl hz (show ((Int32.ofInt 1)).toInt = 1 from by decide) (by omega) (by omega) (by omega) (fun v10_ p10_ => ?_)
            refine wk_goto xd_09c8c9e6 (t := 4) rfl ?_
            exact ih (i + 1) x v10_ _ (cm_u1 w 200 ((ht i) - 1) (vp_nar .boolean (Int32.ofInt 0))) (by omega) (by rw [hx]; omega) (by rw [p10_]; omega) (fun a b hab => (hs_u1_ne (fun z => hab z.1)).trans (hT a b hab)) hG9_
          · have h50_7 := aw_ne_f (a := ((w.1 200 ((ht i) - 1)).toInt : Int)) (b := (0 : Int)) rfl hb_z h50_7
            refine wk_iconst xd_2550de49 ?_
            refine wk_goto xd_734e85d0 (t := 58) rfl ?_
            refine aw_bastore (i := ((ht i) - 1)) xf_e8fbc76a p6_ (by omega) (by omega) xd_e339d629 rfl ?_
            have hG11_ : sv_w sg (cm_u1 w 200 ((ht i) - 1) (vp_nar .boolean (Int32.ofInt 1))) := sv_w_u1 hG (by rw [xh_c2512df3 ((ht i) - 1) (by omega)]; exact sv_bool _)
            refine wk_goto xd_0b363478 (t := 204) rfl ?_
            refine aw_iinc (a := ((i : Int) : Int)) (b := (1 : Int)) (e := ((i : Int) + 1 : Int)) xd_37db177f (by rw [xm_53568ad6]; rfl) rfl rfl hz (show ((Int32.ofInt 1)).toInt = 1 from by decide) (by omega) (by omega) (by omega) (fun v12_ p12_ => ?_)
            refine wk_goto xd_09c8c9e6 (t := 4) rfl ?_
            exact ih (i + 1) x v12_ _ (cm_u1 w 200 ((ht i) - 1) (vp_nar .boolean (Int32.ofInt 1))) (by omega) (by rw [hx]; omega) (by rw [p12_]; omega) (fun a b hab => (hs_u1_ne (fun z => hab z.1)).trans (hT a b hab)) hG11_
    · have a1 : (w.1 186 (121 + 3 * i)).toInt = 21 ∨ (w.1 186 (121 + 3 * i)).toInt = 22 := a1
      refine wk_iload_n xd_a45d60f5 rfl ?_
      refine wk_aload_n xd_228d239c rfl ?_
      refine wk_getR xf_8d0de844 xd_3e5cda25 ?_
      refine wk_bipush xd_b78dc282 ?_
      refine aw_iaload (i := 120) xf_31d67ad9 (show (((Int8.ofInt 120).toInt32)).toInt = 120 from by decide) (by omega) (by omega) xd_fd49e44b ?_
      refine wk_icmp xd_a74ba16b (t := 210) rfl (fun h12_12 => ?_) (fun h12_12 => ?_)
      · have h12_12 := aw_ge_t (a := ((i : Int) : Int)) (b := ((w.1 186 120).toInt : Int)) hz rfl h12_12
        exfalso
        omega
      · have h12_12 := aw_ge_f (a := ((i : Int) : Int)) (b := ((w.1 186 120).toInt : Int)) hz rfl h12_12
        refine wk_bipush xd_e07d5c3e ?_
        refine wk_iconst xd_036dbfba ?_
        refine wk_iload_n xd_84ca9ee4 rfl ?_
        refine aw_imul (a := (3 : Int)) (b := ((i : Int) : Int)) (e := (3 * (i : Int) : Int)) xd_e75d5f5b (show ((Int32.ofInt 3)).toInt = 3 from by decide) hz (by omega) (by omega) (by omega) (fun v14_ p14_ => ?_)
        refine aw_iadd (a := (121 : Int)) (b := (3 * (i : Int) : Int)) (e := (3 * (i : Int) + 121 : Int)) xd_83523194 (show (((Int8.ofInt 121).toInt32)).toInt = 121 from by decide) p14_ (by omega) (by omega) (by omega) (fun v15_ p15_ => ?_)
        refine wk_istore xd_f5b46ea7 (by rw [xm_53568ad6]; rfl) rfl ?_
        refine wk_aload_n xd_b72be46a rfl ?_
        refine wk_getR xf_8d0de844 xd_82071450 ?_
        refine wk_iload xd_0f9aad27 rfl ?_
        refine aw_iaload (i := (121 + 3 * i)) xf_31d67ad9 p15_ (by omega) (by omega) xd_1b8cb01a ?_
        refine wk_bipush xd_4067399a ?_
        refine wk_icmp xd_43753cc6 (t := 62) rfl (fun h32_15 => ?_) (fun h32_15 => ?_)
        · have h32_15 := aw_ne_t (a := ((w.1 186 (121 + 3 * i)).toInt : Int)) (b := (20 : Int)) rfl (show (((Int8.ofInt 20).toInt32)).toInt = 20 from by decide) h32_15
          refine wk_aload_n xd_455e90e1 rfl ?_
          refine wk_getR xf_8d0de844 xd_66c37e26 ?_
          refine wk_iload xd_cce1bdb9 rfl ?_
          refine aw_iaload (i := (121 + 3 * i)) xf_31d67ad9 p15_ (by omega) (by omega) xd_6c128fe7 ?_
          refine wk_bipush xd_0eee42a0 ?_
          refine wk_icmp xd_e949d647 (t := 86) rfl (fun h71_16 => ?_) (fun h71_16 => ?_)
          · have h71_16 := aw_eq_t (a := ((w.1 186 (121 + 3 * i)).toInt : Int)) (b := (21 : Int)) rfl (show (((Int8.ofInt 21).toInt32)).toInt = 21 from by decide) h71_16
            refine aw_iinc (a := (((ht i) : Int) : Int)) (b := ((-1) : Int)) (e := (((ht i) : Int) + (-1) : Int)) xd_3569b868 (by rw [xm_53568ad6]; rfl) rfl rfl hx (show ((Int32.ofInt (-1))).toInt = (-1) from by decide) (by omega) (by omega) (by omega) (fun v18_ p18_ => ?_)
            refine wk_aload_n xd_51328414 rfl ?_
            refine wk_getR xf_381e4419 xd_b4036e2c ?_
            refine wk_iload_n xd_1dfbf1f1 rfl ?_
            refine wk_iconst xd_406c02bc ?_
            refine aw_isub (a := (((ht i) : Int) + (-1) : Int)) (b := (1 : Int)) (e := (((ht i) : Int) + (-2) : Int)) xd_7ad46226 p18_ (show ((Int32.ofInt 1)).toInt = 1 from by decide) (by omega) (by omega) (by omega) (fun v19_ p19_ => ?_)
            refine wk_aload_n xd_a6173abb rfl ?_
            refine wk_getR xf_8d0de844 xd_10946247 ?_
            refine wk_iload xd_55b4f58a rfl ?_
            refine aw_iaload (i := (121 + 3 * i)) xf_31d67ad9 p15_ (by omega) (by omega) xd_e33d3b0f ?_
            refine wk_bipush xd_826795d2 ?_
            refine wk_icmp xd_01f28ac5 (t := 136) rfl (fun h105_19 => ?_) (fun h105_19 => ?_)
            · have h105_19 := aw_ne_t (a := ((w.1 186 (121 + 3 * i)).toInt : Int)) (b := (21 : Int)) rfl (show (((Int8.ofInt 21).toInt32)).toInt = 21 from by decide) h105_19
              refine wk_aload_n xd_7cbadfe7 rfl ?_
              refine wk_getR xf_381e4419 xd_bc3d4c86 ?_
              refine wk_iload_n xd_80ab1ae7 rfl ?_
              refine wk_iconst xd_b001e1b9 ?_
              refine aw_isub (a := (((ht i) : Int) + (-1) : Int)) (b := (1 : Int)) (e := (((ht i) : Int) + (-2) : Int)) xd_d63aab85 p18_ (show ((Int32.ofInt 1)).toInt = 1 from by decide) (by omega) (by omega) (by omega) (fun v21_ p21_ => ?_)
              refine aw_baload (i := ((ht i) - 2)) xf_e8fbc76a p21_ (by omega) (by omega) xd_6c43ff05 rfl ?_
              refine wk_if xd_5ca8e5d1 (t := 156) rfl (fun h144_21 => ?_) (fun h144_21 => ?_)
              · have h144_21 := aw_ne_t (a := ((w.1 200 ((ht i) - 2)).toInt : Int)) (b := (0 : Int)) rfl hb_z h144_21
                refine wk_iconst xd_4eab352d ?_
                refine wk_goto xd_f2e0d90a (t := 161) rfl ?_
                refine aw_bastore (i := ((ht i) - 2)) xf_e8fbc76a p19_ (by omega) (by omega) xd_7df0e6f4 rfl ?_
                have hG23_ : sv_w sg (cm_u1 w 200 ((ht i) - 2) (vp_nar .boolean (Int32.ofInt 1))) := sv_w_u1 hG (by rw [xh_c2512df3 ((ht i) - 2) (by omega)]; exact sv_bool _)
                refine wk_goto xd_ff8725ea (t := 204) rfl ?_
                refine aw_iinc (a := ((i : Int) : Int)) (b := (1 : Int)) (e := ((i : Int) + 1 : Int)) xd_37db177f (by rw [xm_53568ad6]; rfl) rfl rfl hz (show ((Int32.ofInt 1)).toInt = 1 from by decide) (by omega) (by omega) (by omega) (fun v24_ p24_ => ?_)
                refine wk_goto xd_09c8c9e6 (t := 4) rfl ?_
                exact ih (i + 1) v18_ v24_ _ (cm_u1 w 200 ((ht i) - 2) (vp_nar .boolean (Int32.ofInt 1))) (by omega) (by rw [p18_]; omega) (by rw [p24_]; omega) (fun a b hab => (hs_u1_ne (fun z => hab z.1)).trans (hT a b hab)) hG23_
              · have h144_21 := aw_ne_f (a := ((w.1 200 ((ht i) - 2)).toInt : Int)) (b := (0 : Int)) rfl hb_z h144_21
                refine wk_aload_n xd_d6d10244 rfl ?_
                refine wk_getR xf_381e4419 xd_86a558bf ?_
                refine wk_iload_n xd_9afd9514 rfl ?_
                refine aw_baload (i := ((ht i) - 1)) xf_e8fbc76a p18_ (by omega) (by omega) xd_96fe47dd rfl ?_
                refine wk_if xd_c640f5d8 (t := 160) rfl (fun h153_24 => ?_) (fun h153_24 => ?_)
                · have h153_24 := aw_eq_t (a := ((w.1 200 ((ht i) - 1)).toInt : Int)) (b := (0 : Int)) rfl hb_z h153_24
                  refine wk_iconst xd_77df7f20 ?_
                  refine aw_bastore (i := ((ht i) - 2)) xf_e8fbc76a p19_ (by omega) (by omega) xd_7df0e6f4 rfl ?_
                  have hG26_ : sv_w sg (cm_u1 w 200 ((ht i) - 2) (vp_nar .boolean (Int32.ofInt 0))) := sv_w_u1 hG (by rw [xh_c2512df3 ((ht i) - 2) (by omega)]; exact sv_bool _)
                  refine wk_goto xd_ff8725ea (t := 204) rfl ?_
                  refine aw_iinc (a := ((i : Int) : Int)) (b := (1 : Int)) (e := ((i : Int) + 1 : Int)) xd_37db177f (by rw [xm_53568ad6]; rfl) rfl rfl hz (show ((Int32.ofInt 1)).toInt = 1 from by decide) (by omega) (by omega) (by omega) (fun v27_ p27_ => ?_)
                  refine wk_goto xd_09c8c9e6 (t := 4) rfl ?_
                  exact ih (i + 1) v18_ v27_ _ (cm_u1 w 200 ((ht i) - 2) (vp_nar .boolean (Int32.ofInt 0))) (by omega) (by rw [p18_]; omega) (by rw [p27_]; omega) (fun a b hab => (hs_u1_ne (fun z => hab z.1)).trans (hT a b hab)) hG26_
                · have h153_24 := aw_eq_f (a := ((w.1 200 ((ht i) - 1)).toInt : Int)) (b := (0 : Int)) rfl hb_z h153_24
                  refine wk_iconst xd_4eab352d ?_
                  refine wk_goto xd_f2e0d90a (t := 161) rfl ?_
                  refine aw_bastore (i := ((ht i) - 2)) xf_e8fbc76a p19_ (by omega) (by omega) xd_7df0e6f4 rfl ?_
                  have hG28_ : sv_w sg (cm_u1 w 200 ((ht i) - 2) (vp_nar .boolean (Int32.ofInt 1))) := sv_w_u1 hG (by rw [xh_c2512df3 ((ht i) - 2) (by omega)]; exact sv_bool _)
                  refine wk_goto xd_ff8725ea (t := 204) rfl ?_
                  refine aw_iinc (a := ((i : Int) : Int)) (b := (1 : Int)) (e := ((i : Int) + 1 : Int)) xd_37db177f (by rw [xm_53568ad6]; rfl) rfl rfl hz (show ((Int32.ofInt 1)).toInt = 1 from by decide) (by omega) (by omega) (by omega) (fun v29_ p29_ => ?_)
                  refine wk_goto xd_09c8c9e6 (t := 4) rfl ?_
                  exact ih (i + 1) v18_ v29_ _ (cm_u1 w 200 ((ht i) - 2) (vp_nar .boolean (Int32.ofInt 1))) (by omega) (by rw [p18_]; omega) (by rw [p29_]; omega) (fun a b hab => (hs_u1_ne (fun z => hab z.1)).trans (hT a b hab)) hG28_
            · have h105_19 := aw_ne_f (a := ((w.1 186 (121 + 3 * i)).toInt : Int)) (b := (21 : Int)) rfl (show (((Int8.ofInt 21).toInt32)).toInt = 21 from by decide) h105_19
              refine wk_aload_n xd_c9d74793 rfl ?_
              refine wk_getR xf_381e4419 xd_09ba5e6f ?_
              refine wk_iload_n xd_851e3276 rfl ?_
              refine wk_iconst xd_057e637e ?_
              refine aw_isub (a := (((ht i) : Int) + (-1) : Int)) (b := (1 : Int)) (e := (((ht i) : Int) + (-2) : Int)) xd_e6cc9aba p18_ (show ((Int32.ofInt 1)).toInt = 1 from by decide) (by omega) (by omega) (by omega) (fun v30_ p30_ => ?_)
              refine aw_baload (i := ((ht i) - 2)) xf_e8fbc76a p30_ (by omega) (by omega) xd_6543e5f5 rfl ?_
              refine wk_if xd_09f6ddf6 (t := 132) rfl (fun h116_30 => ?_) (fun h116_30 => ?_)
              · have h116_30 := aw_eq_t (a := ((w.1 200 ((ht i) - 2)).toInt : Int)) (b := (0 : Int)) rfl hb_z h116_30
                refine wk_iconst xd_c2a0fde7 ?_
                refine wk_goto xd_b73daa08 (t := 161) rfl ?_
                refine aw_bastore (i := ((ht i) - 2)) xf_e8fbc76a p19_ (by omega) (by omega) xd_7df0e6f4 rfl ?_
                have hG32_ : sv_w sg (cm_u1 w 200 ((ht i) - 2) (vp_nar .boolean (Int32.ofInt 0))) := sv_w_u1 hG (by rw [xh_c2512df3 ((ht i) - 2) (by omega)]; exact sv_bool _)
                refine wk_goto xd_ff8725ea (t := 204) rfl ?_
                refine aw_iinc (a := ((i : Int) : Int)) (b := (1 : Int)) (e := ((i : Int) + 1 : Int)) xd_37db177f (by rw [xm_53568ad6]; rfl) rfl rfl hz (show ((Int32.ofInt 1)).toInt = 1 from by decide) (by omega) (by omega) (by omega) (fun v33_ p33_ => ?_)
                refine wk_goto xd_09c8c9e6 (t := 4) rfl ?_
                exact ih (i + 1) v18_ v33_ _ (cm_u1 w 200 ((ht i) - 2) (vp_nar .boolean (Int32.ofInt 0))) (by omega) (by rw [p18_]; omega) (by rw [p33_]; omega) (fun a b hab => (hs_u1_ne (fun z => hab z.1)).trans (hT a b hab)) hG32_
              · have h116_30 := aw_eq_f (a := ((w.1 200 ((ht i) - 2)).toInt : Int)) (b := (0 : Int)) rfl hb_z h116_30
                refine wk_aload_n xd_d381c860 rfl ?_
                refine wk_getR xf_381e4419 xd_957016b9 ?_
                refine wk_iload_n xd_4673718a rfl ?_
                refine aw_baload (i := ((ht i) - 1)) xf_e8fbc76a p18_ (by omega) (by omega) xd_7b3a5c50 rfl ?_
                refine wk_if xd_2b4b6eef (t := 132) rfl (fun h125_33 => ?_) (fun h125_33 => ?_)
                · have h125_33 := aw_eq_t (a := ((w.1 200 ((ht i) - 1)).toInt : Int)) (b := (0 : Int)) rfl hb_z h125_33
                  refine wk_iconst xd_c2a0fde7 ?_
                  refine wk_goto xd_b73daa08 (t := 161) rfl ?_
                  refine aw_bastore (i := ((ht i) - 2)) xf_e8fbc76a p19_ (by omega) (by omega) xd_7df0e6f4 rfl ?_
                  have hG35_ : sv_w sg (cm_u1 w 200 ((ht i) - 2) (vp_nar .boolean (Int32.ofInt 0))) := sv_w_u1 hG (by rw [xh_c2512df3 ((ht i) - 2) (by omega)]; exact sv_bool _)
                  refine wk_goto xd_ff8725ea (t := 204) rfl ?_
                  refine aw_iinc (a := ((i : Int) : Int)) (b := (1 : Int)) (e := ((i : Int) + 1 : Int)) xd_37db177f (by rw [xm_53568ad6]; rfl) rfl rfl hz (show ((Int32.ofInt 1)).toInt = 1 from by decide) (by omega) (by omega) (by omega) (fun v36_ p36_ => ?_)
                  refine wk_goto xd_09c8c9e6 (t := 4) rfl ?_
                  exact ih (i + 1) v18_ v36_ _ (cm_u1 w 200 ((ht i) - 2) (vp_nar .boolean (Int32.ofInt 0))) (by omega) (by rw [p18_]; omega) (by rw [p36_]; omega) (fun a b hab => (hs_u1_ne (fun z => hab z.1)).trans (hT a b hab)) hG35_
                · have h125_33 := aw_eq_f (a := ((w.1 200 ((ht i) - 1)).toInt : Int)) (b := (0 : Int)) rfl hb_z h125_33
                  refine wk_iconst xd_f3a0d103 ?_
                  refine wk_goto xd_e0cf0dc7 (t := 161) rfl ?_
                  refine aw_bastore (i := ((ht i) - 2)) xf_e8fbc76a p19_ (by omega) (by omega) xd_7df0e6f4 rfl ?_
                  have hG37_ : sv_w sg (cm_u1 w 200 ((ht i) - 2) (vp_nar .boolean (Int32.ofInt 1))) := sv_w_u1 hG (by rw [xh_c2512df3 ((ht i) - 2) (by omega)]; exact sv_bool _)
                  refine wk_goto xd_ff8725ea (t := 204) rfl ?_
                  refine aw_iinc (a := ((i : Int) : Int)) (b := (1 : Int)) (e := ((i : Int) + 1 : Int)) xd_37db177f (by rw [xm_53568ad6]; rfl) rfl rfl hz (show ((Int32.ofInt 1)).toInt = 1 from by decide) (by omega) (by omega) (by omega) (fun v38_ p38_ => ?_)
                  refine wk_goto xd_09c8c9e6 (t := 4) rfl ?_
                  exact ih (i + 1) v18_ v38_ _ (cm_u1 w 200 ((ht i) - 2) (vp_nar .boolean (Int32.ofInt 1))) (by omega) (by rw [p18_]; omega) (by rw [p38_]; omega) (fun a b hab => (hs_u1_ne (fun z => hab z.1)).trans (hT a b hab)) hG37_
          · have h71_16 := aw_eq_f (a := ((w.1 186 (121 + 3 * i)).toInt : Int)) (b := (21 : Int)) rfl (show (((Int8.ofInt 21).toInt32)).toInt = 21 from by decide) h71_16
            refine wk_aload_n xd_29b187bc rfl ?_
            refine wk_getR xf_8d0de844 xd_ea05b417 ?_
            refine wk_iload xd_0806d5c9 rfl ?_
            refine aw_iaload (i := (121 + 3 * i)) xf_31d67ad9 p15_ (by omega) (by omega) xd_220655e5 ?_
            refine wk_bipush xd_2bc715b8 ?_
            refine wk_icmp xd_5913ccb6 (t := 165) rfl (fun h83_38 => ?_) (fun h83_38 => ?_)
            · have h83_38 := aw_ne_t (a := ((w.1 186 (121 + 3 * i)).toInt : Int)) (b := (22 : Int)) rfl (show (((Int8.ofInt 22).toInt32)).toInt = 22 from by decide) h83_38
              exfalso
              omega
            · have h83_38 := aw_ne_f (a := ((w.1 186 (121 + 3 * i)).toInt : Int)) (b := (22 : Int)) rfl (show (((Int8.ofInt 22).toInt32)).toInt = 22 from by decide) h83_38
              refine aw_iinc (a := (((ht i) : Int) : Int)) (b := ((-1) : Int)) (e := (((ht i) : Int) + (-1) : Int)) xd_3569b868 (by rw [xm_53568ad6]; rfl) rfl rfl hx (show ((Int32.ofInt (-1))).toInt = (-1) from by decide) (by omega) (by omega) (by omega) (fun v40_ p40_ => ?_)
              refine wk_aload_n xd_51328414 rfl ?_
              refine wk_getR xf_381e4419 xd_b4036e2c ?_
              refine wk_iload_n xd_1dfbf1f1 rfl ?_
              refine wk_iconst xd_406c02bc ?_
              refine aw_isub (a := (((ht i) : Int) + (-1) : Int)) (b := (1 : Int)) (e := (((ht i) : Int) + (-2) : Int)) xd_7ad46226 p40_ (show ((Int32.ofInt 1)).toInt = 1 from by decide) (by omega) (by omega) (by omega) (fun v41_ p41_ => ?_)
              refine wk_aload_n xd_a6173abb rfl ?_
              refine wk_getR xf_8d0de844 xd_10946247 ?_
              refine wk_iload xd_55b4f58a rfl ?_
              refine aw_iaload (i := (121 + 3 * i)) xf_31d67ad9 p15_ (by omega) (by omega) xd_e33d3b0f ?_
              refine wk_bipush xd_826795d2 ?_
              refine wk_icmp xd_01f28ac5 (t := 136) rfl (fun h105_41 => ?_) (fun h105_41 => ?_)
              · have h105_41 := aw_ne_t (a := ((w.1 186 (121 + 3 * i)).toInt : Int)) (b := (21 : Int)) rfl (show (((Int8.ofInt 21).toInt32)).toInt = 21 from by decide) h105_41
                refine wk_aload_n xd_7cbadfe7 rfl ?_
                refine wk_getR xf_381e4419 xd_bc3d4c86 ?_
                refine wk_iload_n xd_80ab1ae7 rfl ?_
                refine wk_iconst xd_b001e1b9 ?_
                refine aw_isub (a := (((ht i) : Int) + (-1) : Int)) (b := (1 : Int)) (e := (((ht i) : Int) + (-2) : Int)) xd_d63aab85 p40_ (show ((Int32.ofInt 1)).toInt = 1 from by decide) (by omega) (by omega) (by omega) (fun v43_ p43_ => ?_)
                refine aw_baload (i := ((ht i) - 2)) xf_e8fbc76a p43_ (by omega) (by omega) xd_6c43ff05 rfl ?_
                refine wk_if xd_5ca8e5d1 (t := 156) rfl (fun h144_43 => ?_) (fun h144_43 => ?_)
                · have h144_43 := aw_ne_t (a := ((w.1 200 ((ht i) - 2)).toInt : Int)) (b := (0 : Int)) rfl hb_z h144_43
                  refine wk_iconst xd_4eab352d ?_
                  refine wk_goto xd_f2e0d90a (t := 161) rfl ?_
                  refine aw_bastore (i := ((ht i) - 2)) xf_e8fbc76a p41_ (by omega) (by omega) xd_7df0e6f4 rfl ?_
                  have hG45_ : sv_w sg (cm_u1 w 200 ((ht i) - 2) (vp_nar .boolean (Int32.ofInt 1))) := sv_w_u1 hG (by rw [xh_c2512df3 ((ht i) - 2) (by omega)]; exact sv_bool _)
                  refine wk_goto xd_ff8725ea (t := 204) rfl ?_
                  refine aw_iinc (a := ((i : Int) : Int)) (b := (1 : Int)) (e := ((i : Int) + 1 : Int)) xd_37db177f (by rw [xm_53568ad6]; rfl) rfl rfl hz (show ((Int32.ofInt 1)).toInt = 1 from by decide) (by omega) (by omega) (by omega) (fun v46_ p46_ => ?_)
                  refine wk_goto xd_09c8c9e6 (t := 4) rfl ?_
                  exact ih (i + 1) v40_ v46_ _ (cm_u1 w 200 ((ht i) - 2) (vp_nar .boolean (Int32.ofInt 1))) (by omega) (by rw [p40_]; omega) (by rw [p46_]; omega) (fun a b hab => (hs_u1_ne (fun z => hab z.1)).trans (hT a b hab)) hG45_
                · have h144_43 := aw_ne_f (a := ((w.1 200 ((ht i) - 2)).toInt : Int)) (b := (0 : Int)) rfl hb_z h144_43
                  refine wk_aload_n xd_d6d10244 rfl ?_
                  refine wk_getR xf_381e4419 xd_86a558bf ?_
                  refine wk_iload_n xd_9afd9514 rfl ?_
                  refine aw_baload (i := ((ht i) - 1)) xf_e8fbc76a p40_ (by omega) (by omega) xd_96fe47dd rfl ?_
                  refine wk_if xd_c640f5d8 (t := 160) rfl (fun h153_46 => ?_) (fun h153_46 => ?_)
                  · have h153_46 := aw_eq_t (a := ((w.1 200 ((ht i) - 1)).toInt : Int)) (b := (0 : Int)) rfl hb_z h153_46
                    refine wk_iconst xd_77df7f20 ?_
                    refine aw_bastore (i := ((ht i) - 2)) xf_e8fbc76a p41_ (by omega) (by omega) xd_7df0e6f4 rfl ?_
                    have hG48_ : sv_w sg (cm_u1 w 200 ((ht i) - 2) (vp_nar .boolean (Int32.ofInt 0))) := sv_w_u1 hG (by rw [xh_c2512df3 ((ht i) - 2) (by omega)]; exact sv_bool _)
                    refine wk_goto xd_ff8725ea (t := 204) rfl ?_
                    refine aw_iinc (a := ((i : Int) : Int)) (b := (1 : Int)) (e := ((i : Int) + 1 : Int)) xd_37db177f (by rw [xm_53568ad6]; rfl) rfl rfl hz (show ((Int32.ofInt 1)).toInt = 1 from by decide) (by omega) (by omega) (by omega) (fun v49_ p49_ => ?_)
                    refine wk_goto xd_09c8c9e6 (t := 4) rfl ?_
                    exact ih (i + 1) v40_ v49_ _ (cm_u1 w 200 ((ht i) - 2) (vp_nar .boolean (Int32.ofInt 0))) (by omega) (by rw [p40_]; omega) (by rw [p49_]; omega) (fun a b hab => (hs_u1_ne (fun z => hab z.1)).trans (hT a b hab)) hG48_
                  · have h153_46 := aw_eq_f (a := ((w.1 200 ((ht i) - 1)).toInt : Int)) (b := (0 : Int)) rfl hb_z h153_46
                    refine wk_iconst xd_4eab352d ?_
                    refine wk_goto xd_f2e0d90a (t := 161) rfl ?_
                    refine aw_bastore (i := ((ht i) - 2)) xf_e8fbc76a p41_ (by omega) (by omega) xd_7df0e6f4 rfl ?_
                    have hG50_ : sv_w sg (cm_u1 w 200 ((ht i) - 2) (vp_nar .boolean (Int32.ofInt 1))) := sv_w_u1 hG (by rw [xh_c2512df3 ((ht i) - 2) (by omega)]; exact sv_bool _)
                    refine wk_goto xd_ff8725ea (t := 204) rfl ?_
                    refine aw_iinc (a := ((i : Int) : Int)) (b := (1 : Int)) (e := ((i : Int) + 1 : Int)) xd_37db177f (by rw [xm_53568ad6]; rfl) rfl rfl hz (show ((Int32.ofInt 1)).toInt = 1 from by decide) (by omega) (by omega) (by omega) (fun v51_ p51_ => ?_)
                    refine wk_goto xd_09c8c9e6 (t := 4) rfl ?_
                    exact ih (i + 1) v40_ v51_ _ (cm_u1 w 200 ((ht i) - 2) (vp_nar .boolean (Int32.ofInt 1))) (by omega) (by rw [p40_]; omega) (by rw [p51_]; omega) (fun a b hab => (hs_u1_ne (fun z => hab z.1)).trans (hT a b hab)) hG50_
              · have h105_41 := aw_ne_f (a := ((w.1 186 (121 + 3 * i)).toInt : Int)) (b := (21 : Int)) rfl (show (((Int8.ofInt 21).toInt32)).toInt = 21 from by decide) h105_41
                refine wk_aload_n xd_c9d74793 rfl ?_
                refine wk_getR xf_381e4419 xd_09ba5e6f ?_
                refine wk_iload_n xd_851e3276 rfl ?_
                refine wk_iconst xd_057e637e ?_
                refine aw_isub (a := (((ht i) : Int) + (-1) : Int)) (b := (1 : Int)) (e := (((ht i) : Int) + (-2) : Int)) xd_e6cc9aba p40_ (show ((Int32.ofInt 1)).toInt = 1 from by decide) (by omega) (by omega) (by omega) (fun v52_ p52_ => ?_)
                refine aw_baload (i := ((ht i) - 2)) xf_e8fbc76a p52_ (by omega) (by omega) xd_6543e5f5 rfl ?_
                refine wk_if xd_09f6ddf6 (t := 132) rfl (fun h116_52 => ?_) (fun h116_52 => ?_)
                · have h116_52 := aw_eq_t (a := ((w.1 200 ((ht i) - 2)).toInt : Int)) (b := (0 : Int)) rfl hb_z h116_52
                  refine wk_iconst xd_c2a0fde7 ?_
                  refine wk_goto xd_b73daa08 (t := 161) rfl ?_
                  refine aw_bastore (i := ((ht i) - 2)) xf_e8fbc76a p41_ (by omega) (by omega) xd_7df0e6f4 rfl ?_
                  have hG54_ : sv_w sg (cm_u1 w 200 ((ht i) - 2) (vp_nar .boolean (Int32.ofInt 0))) := sv_w_u1 hG (by rw [xh_c2512df3 ((ht i) - 2) (by omega)]; exact sv_bool _)
                  refine wk_goto xd_ff8725ea (t := 204) rfl ?_
                  refine aw_iinc (a := ((i : Int) : Int)) (b := (1 : Int)) (e := ((i : Int) + 1 : Int)) xd_37db177f (by rw [xm_53568ad6]; rfl) rfl rfl hz (show ((Int32.ofInt 1)).toInt = 1 from by decide) (by omega) (by omega) (by omega) (fun v55_ p55_ => ?_)
                  refine wk_goto xd_09c8c9e6 (t := 4) rfl ?_
                  exact ih (i + 1) v40_ v55_ _ (cm_u1 w 200 ((ht i) - 2) (vp_nar .boolean (Int32.ofInt 0))) (by omega) (by rw [p40_]; omega) (by rw [p55_]; omega) (fun a b hab => (hs_u1_ne (fun z => hab z.1)).trans (hT a b hab)) hG54_
                · have h116_52 := aw_eq_f (a := ((w.1 200 ((ht i) - 2)).toInt : Int)) (b := (0 : Int)) rfl hb_z h116_52
                  refine wk_aload_n xd_d381c860 rfl ?_
                  refine wk_getR xf_381e4419 xd_957016b9 ?_
                  refine wk_iload_n xd_4673718a rfl ?_
                  refine aw_baload (i := ((ht i) - 1)) xf_e8fbc76a p40_ (by omega) (by omega) xd_7b3a5c50 rfl ?_
                  refine wk_if xd_2b4b6eef (t := 132) rfl (fun h125_55 => ?_) (fun h125_55 => ?_)
                  · have h125_55 := aw_eq_t (a := ((w.1 200 ((ht i) - 1)).toInt : Int)) (b := (0 : Int)) rfl hb_z h125_55
                    refine wk_iconst xd_c2a0fde7 ?_
                    refine wk_goto xd_b73daa08 (t := 161) rfl ?_
                    refine aw_bastore (i := ((ht i) - 2)) xf_e8fbc76a p41_ (by omega) (by omega) xd_7df0e6f4 rfl ?_
                    have hG57_ : sv_w sg (cm_u1 w 200 ((ht i) - 2) (vp_nar .boolean (Int32.ofInt 0))) := sv_w_u1 hG (by rw [xh_c2512df3 ((ht i) - 2) (by omega)]; exact sv_bool _)
                    refine wk_goto xd_ff8725ea (t := 204) rfl ?_
                    refine aw_iinc (a := ((i : Int) : Int)) (b := (1 : Int)) (e := ((i : Int) + 1 : Int)) xd_37db177f (by rw [xm_53568ad6]; rfl) rfl rfl hz (show ((Int32.ofInt 1)).toInt = 1 from by decide) (by omega) (by omega) (by omega) (fun v58_ p58_ => ?_)
                    refine wk_goto xd_09c8c9e6 (t := 4) rfl ?_
                    exact ih (i + 1) v40_ v58_ _ (cm_u1 w 200 ((ht i) - 2) (vp_nar .boolean (Int32.ofInt 0))) (by omega) (by rw [p40_]; omega) (by rw [p58_]; omega) (fun a b hab => (hs_u1_ne (fun z => hab z.1)).trans (hT a b hab)) hG57_
                  · have h125_55 := aw_eq_f (a := ((w.1 200 ((ht i) - 1)).toInt : Int)) (b := (0 : Int)) rfl hb_z h125_55
                    refine wk_iconst xd_f3a0d103 ?_
                    refine wk_goto xd_e0cf0dc7 (t := 161) rfl ?_
                    refine aw_bastore (i := ((ht i) - 2)) xf_e8fbc76a p41_ (by omega) (by omega) xd_7df0e6f4 rfl ?_
                    have hG59_ : sv_w sg (cm_u1 w 200 ((ht i) - 2) (vp_nar .boolean (Int32.ofInt 1))) := sv_w_u1 hG (by rw [xh_c2512df3 ((ht i) - 2) (by omega)]; exact sv_bool _)
                    refine wk_goto xd_ff8725ea (t := 204) rfl ?_
                    refine aw_iinc (a := ((i : Int) : Int)) (b := (1 : Int)) (e := ((i : Int) + 1 : Int)) xd_37db177f (by rw [xm_53568ad6]; rfl) rfl rfl hz (show ((Int32.ofInt 1)).toInt = 1 from by decide) (by omega) (by omega) (by omega) (fun v60_ p60_ => ?_)
                    refine wk_goto xd_09c8c9e6 (t := 4) rfl ?_
                    exact ih (i + 1) v40_ v60_ _ (cm_u1 w 200 ((ht i) - 2) (vp_nar .boolean (Int32.ofInt 1))) (by omega) (by rw [p40_]; omega) (by rw [p60_]; omega) (fun a b hab => (hs_u1_ne (fun z => hab z.1)).trans (hT a b hab)) hG59_
        · have h32_15 := aw_ne_f (a := ((w.1 186 (121 + 3 * i)).toInt : Int)) (b := (20 : Int)) rfl (show (((Int8.ofInt 20).toInt32)).toInt = 20 from by decide) h32_15
          exfalso
          omega
    · have a1 : 0 ≤ (w.1 186 (121 + 3 * i)).toInt := a1
      have a2 : (w.1 186 (121 + 3 * i)).toInt ≤ 7 := a2
      have a4 : (w.1 186 (121 + 3 * i)).toInt = 2 ∨ (w.1 186 (121 + 3 * i)).toInt = 3 → 0 ≤ (w.1 186 (123 + 3 * i)).toInt ∧ (w.1 186 (123 + 3 * i)).toInt ≤ 5 := by
        rw [show 123 + 3 * i = 121 + (3 * i + 2) from by omega]
        exact a4
      refine wk_iload_n xd_a45d60f5 rfl ?_
      refine wk_aload_n xd_228d239c rfl ?_
      refine wk_getR xf_8d0de844 xd_3e5cda25 ?_
      refine wk_bipush xd_b78dc282 ?_
      refine aw_iaload (i := 120) xf_31d67ad9 (show (((Int8.ofInt 120).toInt32)).toInt = 120 from by decide) (by omega) (by omega) xd_fd49e44b ?_
      refine wk_icmp xd_a74ba16b (t := 210) rfl (fun h12_60 => ?_) (fun h12_60 => ?_)
      · have h12_60 := aw_ge_t (a := ((i : Int) : Int)) (b := ((w.1 186 120).toInt : Int)) hz rfl h12_60
        exfalso
        omega
      · have h12_60 := aw_ge_f (a := ((i : Int) : Int)) (b := ((w.1 186 120).toInt : Int)) hz rfl h12_60
        refine wk_bipush xd_e07d5c3e ?_
        refine wk_iconst xd_036dbfba ?_
        refine wk_iload_n xd_84ca9ee4 rfl ?_
        refine aw_imul (a := (3 : Int)) (b := ((i : Int) : Int)) (e := (3 * (i : Int) : Int)) xd_e75d5f5b (show ((Int32.ofInt 3)).toInt = 3 from by decide) hz (by omega) (by omega) (by omega) (fun v62_ p62_ => ?_)
        refine aw_iadd (a := (121 : Int)) (b := (3 * (i : Int) : Int)) (e := (3 * (i : Int) + 121 : Int)) xd_83523194 (show (((Int8.ofInt 121).toInt32)).toInt = 121 from by decide) p62_ (by omega) (by omega) (by omega) (fun v63_ p63_ => ?_)
        refine wk_istore xd_f5b46ea7 (by rw [xm_53568ad6]; rfl) rfl ?_
        refine wk_aload_n xd_b72be46a rfl ?_
        refine wk_getR xf_8d0de844 xd_82071450 ?_
        refine wk_iload xd_0f9aad27 rfl ?_
        refine aw_iaload (i := (121 + 3 * i)) xf_31d67ad9 p63_ (by omega) (by omega) xd_1b8cb01a ?_
        refine wk_bipush xd_4067399a ?_
        refine wk_icmp xd_43753cc6 (t := 62) rfl (fun h32_63 => ?_) (fun h32_63 => ?_)
        · have h32_63 := aw_ne_t (a := ((w.1 186 (121 + 3 * i)).toInt : Int)) (b := (20 : Int)) rfl (show (((Int8.ofInt 20).toInt32)).toInt = 20 from by decide) h32_63
          refine wk_aload_n xd_455e90e1 rfl ?_
          refine wk_getR xf_8d0de844 xd_66c37e26 ?_
          refine wk_iload xd_cce1bdb9 rfl ?_
          refine aw_iaload (i := (121 + 3 * i)) xf_31d67ad9 p63_ (by omega) (by omega) xd_6c128fe7 ?_
          refine wk_bipush xd_0eee42a0 ?_
          refine wk_icmp xd_e949d647 (t := 86) rfl (fun h71_64 => ?_) (fun h71_64 => ?_)
          · have h71_64 := aw_eq_t (a := ((w.1 186 (121 + 3 * i)).toInt : Int)) (b := (21 : Int)) rfl (show (((Int8.ofInt 21).toInt32)).toInt = 21 from by decide) h71_64
            exfalso
            omega
          · have h71_64 := aw_eq_f (a := ((w.1 186 (121 + 3 * i)).toInt : Int)) (b := (21 : Int)) rfl (show (((Int8.ofInt 21).toInt32)).toInt = 21 from by decide) h71_64
            refine wk_aload_n xd_29b187bc rfl ?_
            refine wk_getR xf_8d0de844 xd_ea05b417 ?_
            refine wk_iload xd_0806d5c9 rfl ?_
            refine aw_iaload (i := (121 + 3 * i)) xf_31d67ad9 p63_ (by omega) (by omega) xd_220655e5 ?_
            refine wk_bipush xd_2bc715b8 ?_
            refine wk_icmp xd_5913ccb6 (t := 165) rfl (fun h83_65 => ?_) (fun h83_65 => ?_)
            · have h83_65 := aw_ne_t (a := ((w.1 186 (121 + 3 * i)).toInt : Int)) (b := (22 : Int)) rfl (show (((Int8.ofInt 22).toInt32)).toInt = 22 from by decide) h83_65
              refine wk_aload_n xd_e27c1da2 rfl ?_
              refine wk_getR xf_381e4419 xd_d43fecc1 ?_
              refine wk_iload_n xd_c25a7f1a rfl ?_
              refine wk_aload_n xd_f87633c2 rfl ?_
              refine wk_iload_n xd_046623cb rfl ?_
              refine wk_aload_n xd_15e0e02b rfl ?_
              refine wk_getR xf_8d0de844 xd_07d36060 ?_
              refine wk_iload xd_c650ce0c rfl ?_
              refine aw_iaload (i := (121 + 3 * i)) xf_31d67ad9 p63_ (by omega) (by omega) xd_ddcf1d69 ?_
              refine wk_aload_n xd_63bc9a30 rfl ?_
              refine wk_getR xf_8d0de844 xd_bfd480a9 ?_
              refine wk_iload xd_97e95169 rfl ?_
              refine wk_iconst xd_ec45900c ?_
              refine aw_iadd (a := (3 * (i : Int) + 121 : Int)) (b := (1 : Int)) (e := (3 * (i : Int) + 122 : Int)) xd_8ad0c59d p63_ (show ((Int32.ofInt 1)).toInt = 1 from by decide) (by omega) (by omega) (by omega) (fun v67_ p67_ => ?_)
              refine aw_iaload (i := (122 + 3 * i)) xf_31d67ad9 p67_ (by omega) (by omega) xd_ed45e266 ?_
              refine wk_aload_n xd_1bda7b2d rfl ?_
              refine wk_getR xf_8d0de844 xd_36548310 ?_
              refine wk_iload xd_1f1bb637 rfl ?_
              refine wk_iconst xd_27be64c8 ?_
              refine aw_iadd (a := (3 * (i : Int) + 121 : Int)) (b := (2 : Int)) (e := (3 * (i : Int) + 123 : Int)) xd_b7b498a7 p63_ (show ((Int32.ofInt 2)).toInt = 2 from by decide) (by omega) (by omega) (by omega) (fun v68_ p68_ => ?_)
              refine aw_iaload (i := (123 + 3 * i)) xf_31d67ad9 p68_ (by omega) (by omega) xd_17f85abe ?_
              obtain ⟨xl, hCl, hl0, hl1⟩ := hil_ok (w := w) (m := m) (v := (w.1 186 (121 + 3 * i))) (g := (w.1 186 (122 + 3 * i))) (n := (w.1 186 (123 + 3 * i))) hm (by omega) (by omega) (fun hh => by have := a4 hh; omega) hG
              refine wk_call (kd := 0) (i := 440) xd_437a3c53 rfl (wk_cal (as := [.inr (.inr (some 184)), .inl m, .inl (w.1 186 (121 + 3 * i)), .inl (w.1 186 (122 + 3 * i)), .inl (w.1 186 (123 + 3 * i))]) (t := [.inl x, .inr (.inr (some 200))]) xl_a5417b08 rfl xn_9dcba442 xc_749423d1 rfl rfl xv_92957425 rfl) hCl ?_
              refine aw_bastore (i := ((ht i))) xf_e8fbc76a hx (by omega) (by omega) xd_e63e06d7 rfl ?_
              have hG69_ : sv_w sg (cm_u1 w 200 ((ht i)) (vp_nar .boolean xl)) := sv_w_u1 hG (by rw [xh_c2512df3 ((ht i)) (by omega)]; exact sv_bool _)
              refine aw_iinc (a := (((ht i) : Int) : Int)) (b := (1 : Int)) (e := (((ht i) : Int) + 1 : Int)) xd_da25eb0b (by rw [xm_53568ad6]; rfl) rfl rfl hx (show ((Int32.ofInt 1)).toInt = 1 from by decide) (by omega) (by omega) (by omega) (fun v70_ p70_ => ?_)
              refine aw_iinc (a := ((i : Int) : Int)) (b := (1 : Int)) (e := ((i : Int) + 1 : Int)) xd_37db177f (by rw [xm_53568ad6]; rfl) rfl rfl hz (show ((Int32.ofInt 1)).toInt = 1 from by decide) (by omega) (by omega) (by omega) (fun v71_ p71_ => ?_)
              refine wk_goto xd_09c8c9e6 (t := 4) rfl ?_
              exact ih (i + 1) v70_ v71_ _ (cm_u1 w 200 ((ht i)) (vp_nar .boolean xl)) (by omega) (by rw [p70_]; omega) (by rw [p71_]; omega) (fun a b hab => (hs_u1_ne (fun z => hab z.1)).trans (hT a b hab)) hG69_
            · have h83_65 := aw_ne_f (a := ((w.1 186 (121 + 3 * i)).toInt : Int)) (b := (22 : Int)) rfl (show (((Int8.ofInt 22).toInt32)).toInt = 22 from by decide) h83_65
              exfalso
              omega
        · have h32_63 := aw_ne_f (a := ((w.1 186 (121 + 3 * i)).toInt : Int)) (b := (20 : Int)) rfl (show (((Int8.ofInt 20).toInt32)).toInt = 20 from by decide) h32_63
          exfalso
          omega
theorem his_ok {w : cm_W} {m : Int32} (hm : 0 ≤ m.toInt ∧ m.toInt ≤ 5) (hP : hPs w) (hG : sv_w sg w) : ∃ x w', cm_C 4 266 [.inr (.inr (some 184)), .inl m] w (some (.inl x), w') ∧ jTr w w' ∧ sv_w sg w' ∧ 0 ≤ x.toInt ∧ x.toInt ≤ 1 := by
  obtain ⟨c, hc, h1, ht, h2, h3, h4⟩ := hP
  have h : ∃ o, cm_C (3 + 1) 266 [.inr (.inr (some 184)), .inl m] w o ∧ (fun o : cm_O => ∃ x w', o = (some (.inl x), w') ∧ jTr w w' ∧ sv_w sg w' ∧ 0 ≤ x.toInt ∧ x.toInt ≤ 1) o := by
    refine wk_entry (by rw [xm_53568ad6]; exact Nat.le_of_ble_eq_true rfl) ?_
    rw [show cm_ent 266 [.inr (.inr (some 184)), .inl m] = [some (.inr (.inr (some 184))), some (.inl m), none, none, none] from by unfold cm_ent; rw [xm_53568ad6]; rfl]
    refine wk_iconst xd_3c8dec5f ?_
    refine wk_istore_n xd_4a2c9725 (by rw [xm_53568ad6]; rfl) rfl ?_
    refine wk_iconst xd_12dd25df ?_
    refine wk_istore_n xd_ae77729a (by rw [xm_53568ad6]; rfl) rfl ?_
    exact his_l w m hm c h1 hc ht h3 h4 _ (fun w2 x a b d e => ⟨x, w2, rfl, a, b, d, e⟩) c 0 _ _ _ w (by omega) (by rw [h2]; decide) (by decide) (fun _ _ _ => rfl) hG
  obtain ⟨o, hC, x, w', rfl, a⟩ := h
  exact ⟨x, w', hC, a⟩
theorem hPs_tr {w0 w : cm_W} (h : jTr w0 w) (hP : hPs w0) : hPs w := by
  obtain ⟨c, hc, h1⟩ := hP
  exact ⟨c, by rw [h 186 120 (by decide)]; exact hc, hPf_eq (fun j _ => (h 186 (121 + j) (by decide)).symm) h1⟩
theorem hsd_l (w0 : cm_W) (k : Int32) (P : Nat) (hP6 : P ≤ 6) (hp : (w0.1 186 0).toInt = (P : Int)) (hP : hPs w0) (Q : cm_O → Prop) (hk : ∀ w x, jTr w0 w → sv_w sg w → Q (some (.inl x), w)) : ∀ (n i : Nat) (x z : Int32) (w : cm_W), n + i = P → z.toInt = (i : Int) → jTr w0 w → sv_w sg w → cm_X (cm_C 4) 139 26 [some (.inr (.inr (some 184))), some (.inl k), some (.inl x), some (.inl z)] [] w Q := by
  intro n
  induction n with
  | zero =>
    intro i x z w hi hz hT hG
    have e0 : (w.1 186 0).toInt = (P : Int) := by rw [hT 186 0 (by decide)]; exact hp
    refine wk_iload_n xd_839af499 rfl ?_
    refine wk_aload_n xd_054ab7f0 rfl ?_
    refine wk_getR xf_3f301a4d xd_d7c05758 ?_
    refine wk_iconst xd_5b536dba ?_
    refine aw_iaload (i := 0) xf_31d67ad9 (show ((Int32.ofInt 0)).toInt = 0 from by decide) (by omega) (by omega) xd_f9509438 ?_
    refine wk_icmp xd_355c7124 (t := 63) rfl (fun h33_0 => ?_) (fun h33_0 => ?_)
    · have h33_0 := aw_ge_t (a := ((i : Int) : Int)) (b := ((w.1 186 0).toInt : Int)) hz rfl h33_0
      refine wk_iload_n xd_0b7372e1 rfl ?_
      refine wk_iconst xd_9c4958cc ?_
      refine wk_icmp xd_381feec9 (t := 72) rfl (fun h65_1 => ?_) (fun h65_1 => ?_)
      · have h65_1 := aw_ne_t (a := ((k).toInt : Int)) (b := ((-1) : Int)) rfl (show ((Int32.ofInt (-1))).toInt = (-1) from by decide) h65_1
        refine wk_iconst xd_108f92fd ?_
        exact wk_ireturn xd_8bdf926c xr_901d66f3 rfl (hk _ _ hT hG)
      · have h65_1 := aw_ne_f (a := ((k).toInt : Int)) (b := ((-1) : Int)) rfl (show ((Int32.ofInt (-1))).toInt = (-1) from by decide) h65_1
        refine wk_iload_n xd_3a8f722a rfl ?_
        refine wk_goto xd_f1753d5a (t := 73) rfl ?_
        exact wk_ireturn xd_8bdf926c xr_901d66f3 rfl (hk _ _ hT hG)
    · have h33_0 := aw_ge_f (a := ((i : Int) : Int)) (b := ((w.1 186 0).toInt : Int)) hz rfl h33_0
      exfalso
      omega
  | succ n ih =>
    intro i x z w hi hz hT hG
    have e0 : (w.1 186 0).toInt = (P : Int) := by rw [hT 186 0 (by decide)]; exact hp
    refine wk_iload_n xd_839af499 rfl ?_
    refine wk_aload_n xd_054ab7f0 rfl ?_
    refine wk_getR xf_3f301a4d xd_d7c05758 ?_
    refine wk_iconst xd_5b536dba ?_
    refine aw_iaload (i := 0) xf_31d67ad9 (show ((Int32.ofInt 0)).toInt = 0 from by decide) (by omega) (by omega) xd_f9509438 ?_
    refine wk_icmp xd_355c7124 (t := 63) rfl (fun h33_2 => ?_) (fun h33_2 => ?_)
    · have h33_2 := aw_ge_t (a := ((i : Int) : Int)) (b := ((w.1 186 0).toInt : Int)) hz rfl h33_2
      exfalso
      omega
    · have h33_2 := aw_ge_f (a := ((i : Int) : Int)) (b := ((w.1 186 0).toInt : Int)) hz rfl h33_2
      refine wk_aload_n xd_1f1c3803 rfl ?_
      refine wk_iload_n xd_99cc7b6a rfl ?_
      obtain ⟨xs, w2, hC2, hT2, hG2, hx0, hx1⟩ := his_ok (w := w) (m := z) ⟨by omega, by omega⟩ (hPs_tr hT hP) hG
      refine wk_call (kd := 0) (i := 444) xd_e2e93301 rfl (wk_cal (as := [.inr (.inr (some 184)), .inl z]) (t := []) xl_d08671fa rfl xn_b18fedf1 xc_b00d676f rfl rfl xv_124886fc rfl) hC2 ?_
      refine wk_if xd_ce7c3324 (t := 47) rfl (fun h41_3 => ?_) (fun h41_3 => ?_)
      · have h41_3 := aw_ne_t (a := ((xs).toInt : Int)) (b := (0 : Int)) rfl hb_z h41_3
        refine wk_iload_n xd_95b465ad rfl ?_
        refine wk_iload_n xd_a414c4f5 rfl ?_
        refine wk_icmp xd_e277fa5c (t := 54) rfl (fun h49_4 => ?_) (fun h49_4 => ?_)
        · have h49_4 := aw_ne_t (a := ((x).toInt : Int)) (b := ((k).toInt : Int)) rfl rfl h49_4
          refine wk_iinc xd_f216c3b9 (by rw [xm_c724a6bf]; rfl) rfl rfl ?_
          refine aw_iinc (a := ((i : Int) : Int)) (b := (1 : Int)) (e := ((i : Int) + 1 : Int)) xd_6d19654d (by rw [xm_c724a6bf]; rfl) rfl rfl hz (show ((Int32.ofInt 1)).toInt = 1 from by decide) (by omega) (by omega) (by omega) (fun v6_ p6_ => ?_)
          refine wk_goto xd_cb80fc93 (t := 26) rfl ?_
          exact ih (i + 1) _ _ w2 (by omega) (by rw [p6_]; omega) (fun a b hab => (hT2 a b hab).trans (hT a b hab)) hG2
        · have h49_4 := aw_ne_f (a := ((x).toInt : Int)) (b := ((k).toInt : Int)) rfl rfl h49_4
          refine wk_iload_n xd_b2de627d rfl ?_
          exact wk_ireturn xd_a58f5bec xr_901d66f3 rfl (hk _ _ (fun a b hab => (hT2 a b hab).trans (hT a b hab)) hG2)
      · have h41_3 := aw_ne_f (a := ((xs).toInt : Int)) (b := (0 : Int)) rfl hb_z h41_3
        refine wk_goto xd_cb98344f (t := 57) rfl ?_
        refine aw_iinc (a := ((i : Int) : Int)) (b := (1 : Int)) (e := ((i : Int) + 1 : Int)) xd_6d19654d (by rw [xm_c724a6bf]; rfl) rfl rfl hz (show ((Int32.ofInt 1)).toInt = 1 from by decide) (by omega) (by omega) (by omega) (fun v7_ p7_ => ?_)
        refine wk_goto xd_cb80fc93 (t := 26) rfl ?_
        exact ih (i + 1) _ _ w2 (by omega) (by rw [p7_]; omega) (fun a b hab => (hT2 a b hab).trans (hT a b hab)) hG2
/-- said of the reference ends -/
theorem hsd_ok {w : cm_W} {k : Int32} (hP : hPs w) (hG : sv_w sg w) : ∃ x w', cm_C 5 139 [.inr (.inr (some 184)), .inl k] w (some (.inl x), w') ∧ sv_w sg w' ∧ ∀ a b, a ≠ 200 → ¬ (a = 184 ∧ b = 0) → w'.1 a b = w.1 a b := by
  have hb := hG 186 0
  rw [xg_955c97cf] at hb
  have hb := hb_in hb
  have hP' : hPs (cm_u1 w 184 0 (Int32.ofInt 0)) := hP
  have h : ∃ o, cm_C (4 + 1) 139 [.inr (.inr (some 184)), .inl k] w o ∧ (fun o : cm_O => ∃ x w', o = (some (.inl x), w') ∧ sv_w sg w' ∧ ∀ a b, a ≠ 200 → ¬ (a = 184 ∧ b = 0) → w'.1 a b = w.1 a b) o := by
    refine wk_entry (by rw [xm_c724a6bf]; exact Nat.le_of_ble_eq_true rfl) ?_
    rw [show cm_ent 139 [.inr (.inr (some 184)), .inl k] = [some (.inr (.inr (some 184))), some (.inl k), none, none] from by unfold cm_ent; rw [xm_c724a6bf]; rfl]
    refine wk_aload_n xd_395b4962 rfl ?_
    refine wk_iconst xd_b7e3fa0a ?_
    refine wk_putI xf_1b429e7a (fun ci => wk_fitI ci) xd_b6a987ed ?_
    have hG1_ : sv_w sg (cm_u1 w 184 0 (Int32.ofInt 0)) := sv_w_u1 hG (by rw [xg_59f145a5]; exact hb_mk (by rw [(show ((Int32.ofInt 0)).toInt = 0 from by decide)]; omega) (by rw [(show ((Int32.ofInt 0)).toInt = 0 from by decide)]; omega))
    refine wk_aload_n xd_a2740225 rfl ?_
    refine wk_getR xf_3f301a4d xd_47325f73 ?_
    refine wk_bipush xd_05b0308b ?_
    refine aw_iaload (i := 120) xf_31d67ad9 (show (((Int8.ofInt 120).toInt32)).toInt = 120 from by decide) (by omega) (by omega) xd_b23dd88f ?_
    refine wk_if xd_422db432 (t := 20) rfl (fun h12_1 => ?_) (fun h12_1 => ?_)
    · have h12_1 := aw_eq_t (a := ((w.1 186 120).toInt : Int)) (b := (0 : Int)) rfl hb_z h12_1
      refine wk_iconst xd_4d6084e9 ?_
      exact wk_ireturn xd_249264d1 xr_901d66f3 rfl ⟨_, _, rfl, hG1_, fun c d h1 h2 => hs_u1_ne h2⟩
    · have h12_1 := aw_eq_f (a := ((w.1 186 120).toInt : Int)) (b := (0 : Int)) rfl hb_z h12_1
      refine wk_iload_n xd_d7a137ec rfl ?_
      refine wk_iconst xd_d4ec05b7 ?_
      refine wk_icmp xd_84816353 (t := 22) rfl (fun h17_2 => ?_) (fun h17_2 => ?_)
      · have h17_2 := aw_ge_t (a := ((k).toInt : Int)) (b := ((-1) : Int)) rfl (show ((Int32.ofInt (-1))).toInt = (-1) from by decide) h17_2
        refine wk_iconst xd_f9582a2e ?_
        refine wk_istore_n xd_0e0f7dc2 (by rw [xm_c724a6bf]; rfl) rfl ?_
        refine wk_iconst xd_8ba970ae ?_
        refine wk_istore_n xd_83520622 (by rw [xm_c724a6bf]; rfl) rfl ?_
        exact hsd_l _ k (w.1 186 0).toInt.toNat (by omega) (by show (w.1 186 0).toInt = _; omega) hP' _ (fun w2 x a b => ⟨x, w2, rfl, b, fun c d h1 h2 => (a c d h1).trans (hs_u1_ne h2)⟩) (w.1 186 0).toInt.toNat 0 _ _ _ (by omega) (by decide) (fun _ _ _ => rfl) hG1_
      · have h17_2 := aw_ge_f (a := ((k).toInt : Int)) (b := ((-1) : Int)) rfl (show ((Int32.ofInt (-1))).toInt = (-1) from by decide) h17_2
        refine wk_iconst xd_4d6084e9 ?_
        exact wk_ireturn xd_249264d1 xr_901d66f3 rfl ⟨_, _, rfl, hG1_, fun c d h1 h2 => hs_u1_ne h2⟩
  obtain ⟨o, hC, x, w', rfl, a⟩ := h
  exact ⟨x, w', hC, a⟩
