-- by program (wip/p2/gensaid.py): Sentence.trueOf of the class, place by place
def tr_s : sv_SM := (199, 4, 0, [.inr (some 106), .inr (some 33)], [], [(106, 6, 6), (110, 0, 39)], [(some (.inl (0, 4294967295, 0, 0, 0)), [], [])])
set_option maxRecDepth 1000000 in
theorem tr_h : sv_hd tr_s 2 = true := by decide +kernel
set_option maxRecDepth 1000000 in
theorem tr_g : sv_g sg 106 1 = (2147483648, 2147483688) := by decide +kernel
/-- a step that names a person or a meeting has its number -/
def hs_Rs (w : cm_W) : Prop := ∀ i, i < 40 → 2147483648 + i < ia_E (w.1 106 1) → sv_in (2147483664, 2147483665) (w.1 107 i) → sv_in (2147483648, 2147483653) (w.1 109 i)
theorem tr_f {Re : Nat} {w : cm_W} {k i lo hi : Nat} (hi' : i < 16384) (h : sv_in (lo, hi) (w.1 k i)) : sv_f1 Re 0 w (sv_zf (sv_q k i, lo, hi, 0, 0)) := by
  obtain ⟨e1, e2⟩ := sv_qd (k := k) hi'
  refine ⟨?_, Or.inl rfl, Or.inl rfl⟩
  show sv_in (lo, hi) (w.1 (sv_q k i / 16384) (sv_q k i % 16384))
  rw [e1, e2]
  exact h
theorem tr_f3 {Re : Nat} {w : cm_W} {a b c : Nat × Nat × Nat × Nat × Nat} (ha : sv_f1 Re 0 w (sv_zf a)) (hb : sv_f1 Re 0 w (sv_zf b)) (hc : sv_f1 Re 0 w (sv_zf c)) : sv_fs Re 0 ([a, b, c].map sv_zf) w := by
  intro f hf
  rcases List.mem_cons.mp hf with rfl | hf
  · exact ha
  rcases List.mem_cons.mp hf with rfl | hf
  · exact hb
  rcases List.mem_cons.mp hf with rfl | hf
  · exact hc
  · cases hf
theorem tr_f1 {Re : Nat} {w : cm_W} {a : Nat × Nat × Nat × Nat × Nat} (ha : sv_f1 Re 0 w (sv_zf a)) : sv_fs Re 0 ([a].map sv_zf) w := by
  intro f hf
  rcases List.mem_cons.mp hf with rfl | hf
  · exact ha
  · cases hf
noncomputable def tr_ts (i n : Nat) : List (Nat × sv_F) := [(n + 1, [(sv_q 106 1, 2147483648, 2147483648 + i, 0, 0)]), (n + 2, [(sv_q 106 1, 2147483649 + i, 2147483688, 0, 0), (sv_q 107 i, 0, 2147483663, 0, 0), (sv_q 109 i, 0, 4294967295, 0, 0)]), (n + 3, [(sv_q 106 1, 2147483649 + i, 2147483688, 0, 0), (sv_q 107 i, 2147483664, 2147483665, 0, 0), (sv_q 109 i, 2147483648, 2147483653, 0, 0)]), (n + 4, [(sv_q 106 1, 2147483649 + i, 2147483688, 0, 0), (sv_q 107 i, 2147483666, 4294967295, 0, 0), (sv_q 109 i, 0, 4294967295, 0, 0)])]
theorem tr_sp {Re : Nat} (i n : Nat) (hi : i < 40) {w0 w : cm_W} (hR : hs_Rs w0) (hfr : sv_fr tr_s.2.2.2.2.2.1 w0 w) (hG : sv_w sg w) : ∃ t ∈ tr_ts i n, sv_fs Re 0 (t.2.map sv_zf) w := by
  have hW : ∀ k j, (k = 106 ∧ j = 1) ∨ k = 107 ∨ k = 109 → ¬ sv_hit tr_s.2.2.2.2.2.1 k j := by
    rintro k j hk ⟨r, hr, e1, e2, e3⟩
    have hall : tr_s.2.2.2.2.2.1.all (fun r => decide (¬ (r.1 = 107) ∧ ¬ (r.1 = 109) ∧ (r.1 = 106 → 1 < r.2.1))) = true := by decide
    have := of_decide_eq_true (List.all_eq_true.mp hall r hr)
    rcases hk with ⟨z1, z2⟩ | z | z
    · have := this.2.2 (e1.trans z1); omega
    · exact this.1 (e1.trans z)
    · exact this.2.1 (e1.trans z)
  have q1 : w.1 106 1 = w0.1 106 1 := (hfr 106 1 (hW _ _ (Or.inl ⟨rfl, rfl⟩))).1
  have q2 : w.1 107 i = w0.1 107 i := (hfr 107 i (hW _ _ (Or.inr (Or.inl rfl)))).1
  have q3 : w.1 109 i = w0.1 109 i := (hfr 109 i (hW _ _ (Or.inr (Or.inr rfl)))).1
  have g := hG 106 1
  have eg : sv_g sg 106 1 = (2147483648, 2147483688) := tr_g
  rw [eg] at g
  have g1 : 2147483648 ≤ ia_E (w.1 106 1) := g.1
  have g2 : ia_E (w.1 106 1) ≤ 2147483688 := g.2
  have r := hR i hi
  rw [← q1, ← q2, ← q3] at r
  by_cases hx : ia_E (w.1 106 1) ≤ 2147483648 + i
  · exact ⟨_, List.mem_cons_self, tr_f1 (tr_f (by decide) ⟨g1, hx⟩)⟩
  · have s1 : sv_in (2147483649 + i, 2147483688) (w.1 106 1) := ⟨by show 2147483649 + i ≤ _; omega, g2⟩
    have hlt := ia_E_lt (w.1 107 i)
    by_cases h1 : ia_E (w.1 107 i) ≤ 2147483663
    · exact ⟨_, List.mem_cons_of_mem _ List.mem_cons_self, tr_f3 (tr_f (by decide) s1) (tr_f (by omega) ⟨Nat.zero_le _, h1⟩) (tr_f (by omega) (sv_in_top _))⟩
    · by_cases h2 : ia_E (w.1 107 i) ≤ 2147483665
      · have hw : sv_in (2147483664, 2147483665) (w.1 107 i) := ⟨by show 2147483664 ≤ _; omega, h2⟩
        exact ⟨_, List.mem_cons_of_mem _ (List.mem_cons_of_mem _ List.mem_cons_self), tr_f3 (tr_f (by decide) s1) (tr_f (by omega) hw) (tr_f (by omega) (r (by omega) hw))⟩
      · exact ⟨_, List.mem_cons_of_mem _ (List.mem_cons_of_mem _ (List.mem_cons_of_mem _ List.mem_cons_self)), tr_f3 (tr_f (by decide) s1) (tr_f (by omega) ⟨by show 2147483666 ≤ _; omega, by show _ ≤ 4294967295; omega⟩) (tr_f (by omega) (sv_in_top _))⟩
set_option maxRecDepth 1000000 in
theorem tr_x40 : sv_plR hs_Rs sg tr_s 2 (19, 402, 402, 0, [some (.inr (some 106)), some (.inr (some 33)), some (.inl (0, 4294967295, 0, 0, 0)), some (.inl (2147483688, 2147483688, 0, 0, 0))], [], [(1736705, 2147483648, 2147483688, 0, 0)]) := sv_chunkR (S := [sm_196_11501b45]) (cut := [19]) (cs := [(19, 402, 402, 0, [some (.inr (some 106)), some (.inr (some 33)), some (.inl (0, 4294967295, 0, 0, 0)), some (.inl (2147483688, 2147483688, 0, 0, 0))], [], [(1736705, 2147483648, 2147483688, 0, 0)])]) (ext := []) (sp := []) (N := 1000) tr_h (sv_cv sm_196_11501b45_ok sv_nv) (by decide +kernel) sv_npR _ List.mem_cons_self
def tr_T40 : sv_CS := (19, 401, 401, 0, [some (.inr (some 106)), some (.inr (some 33)), some (.inl (0, 4294967295, 0, 0, 0)), some (.inl (2147483688, 2147483688, 0, 0, 0))], [], [(1736705, 2147483648, 2147483688, 0, 0)])
theorem tr_T40_ok : sv_plR hs_Rs sg tr_s 2 tr_T40 := sv_splitR (ts := [(402, [(1736705, 2147483648, 2147483688, 0, 0)])]) rfl (fun t ht => by
  rcases List.mem_cons.mp ht with rfl | ht
  · exact tr_x40
  · cases ht) (fun w0 w hR hfr hG hf => ⟨_, List.mem_cons_self, hf⟩)
set_option maxRecDepth 1000000 in
theorem tr_x39 : sv_plR hs_Rs sg tr_s 2 (19, 392, 392, 0, [some (.inr (some 106)), some (.inr (some 33)), some (.inl (0, 4294967295, 0, 0, 0)), some (.inl (2147483687, 2147483687, 0, 0, 0))], [], [(1736705, 2147483648, 2147483687, 0, 0)]) := sv_chunkR (S := [sm_196_11501b45]) (cut := [19]) (cs := [(19, 392, 392, 0, [some (.inr (some 106)), some (.inr (some 33)), some (.inl (0, 4294967295, 0, 0, 0)), some (.inl (2147483687, 2147483687, 0, 0, 0))], [], [(1736705, 2147483648, 2147483687, 0, 0)])]) (ext := []) (sp := []) (N := 1000) tr_h (sv_cv sm_196_11501b45_ok sv_nv) (by decide +kernel) sv_npR _ List.mem_cons_self
set_option maxRecDepth 1000000 in
theorem tr_lo39 : sv_plR hs_Rs sg tr_s 2 (19, 393, 393, 0, [some (.inr (some 106)), some (.inr (some 33)), some (.inl (0, 4294967295, 0, 0, 0)), some (.inl (2147483687, 2147483687, 0, 0, 0))], [], [(1736705, 2147483688, 2147483688, 0, 0), (1753127, 0, 2147483663, 0, 0), (1785895, 0, 4294967295, 0, 0)]) := sv_chunkR (S := [sm_196_11501b45, sm_197_7e2dd2ff, sm_195_f4a01e64]) (cut := [19]) (cs := [(19, 393, 393, 0, [some (.inr (some 106)), some (.inr (some 33)), some (.inl (0, 4294967295, 0, 0, 0)), some (.inl (2147483687, 2147483687, 0, 0, 0))], [], [(1736705, 2147483688, 2147483688, 0, 0), (1753127, 0, 2147483663, 0, 0), (1785895, 0, 4294967295, 0, 0)])]) (ext := [tr_T40]) (sp := []) (N := 1000) tr_h (sv_cv sm_196_11501b45_ok (sv_cv sm_197_7e2dd2ff_ok (sv_cv sm_195_f4a01e64_ok sv_nv))) (by decide +kernel) (sv_cpR tr_T40_ok sv_npR) _ List.mem_cons_self
set_option maxRecDepth 1000000 in
theorem tr_mi39 : sv_plR hs_Rs sg tr_s 2 (19, 394, 394, 0, [some (.inr (some 106)), some (.inr (some 33)), some (.inl (0, 4294967295, 0, 0, 0)), some (.inl (2147483687, 2147483687, 0, 0, 0))], [], [(1736705, 2147483688, 2147483688, 0, 0), (1753127, 2147483664, 2147483665, 0, 0), (1785895, 2147483648, 2147483653, 0, 0)]) := sv_chunkR (S := [sm_195_dae66506, sm_197_7e2dd2ff]) (cut := [19]) (cs := [(19, 394, 394, 0, [some (.inr (some 106)), some (.inr (some 33)), some (.inl (0, 4294967295, 0, 0, 0)), some (.inl (2147483687, 2147483687, 0, 0, 0))], [], [(1736705, 2147483688, 2147483688, 0, 0), (1753127, 2147483664, 2147483665, 0, 0), (1785895, 2147483648, 2147483653, 0, 0)])]) (ext := [tr_T40]) (sp := []) (N := 1000) tr_h (sv_cv sm_195_dae66506_ok (sv_cv sm_197_7e2dd2ff_ok sv_nv)) (by decide +kernel) (sv_cpR tr_T40_ok sv_npR) _ List.mem_cons_self
set_option maxRecDepth 1000000 in
theorem tr_hi39 : sv_plR hs_Rs sg tr_s 2 (19, 395, 395, 0, [some (.inr (some 106)), some (.inr (some 33)), some (.inl (0, 4294967295, 0, 0, 0)), some (.inl (2147483687, 2147483687, 0, 0, 0))], [], [(1736705, 2147483688, 2147483688, 0, 0), (1753127, 2147483666, 4294967295, 0, 0), (1785895, 0, 4294967295, 0, 0)]) := sv_chunkR (S := [sm_195_d3fd31ee, sm_197_7e2dd2ff]) (cut := [19]) (cs := [(19, 395, 395, 0, [some (.inr (some 106)), some (.inr (some 33)), some (.inl (0, 4294967295, 0, 0, 0)), some (.inl (2147483687, 2147483687, 0, 0, 0))], [], [(1736705, 2147483688, 2147483688, 0, 0), (1753127, 2147483666, 4294967295, 0, 0), (1785895, 0, 4294967295, 0, 0)])]) (ext := [tr_T40]) (sp := []) (N := 1000) tr_h (sv_cv sm_195_d3fd31ee_ok (sv_cv sm_197_7e2dd2ff_ok sv_nv)) (by decide +kernel) (sv_cpR tr_T40_ok sv_npR) _ List.mem_cons_self
def tr_T39 : sv_CS := (19, 391, 391, 0, [some (.inr (some 106)), some (.inr (some 33)), some (.inl (0, 4294967295, 0, 0, 0)), some (.inl (2147483687, 2147483687, 0, 0, 0))], [], [(1736705, 2147483648, 2147483688, 0, 0)])
theorem tr_T39_ok : sv_plR hs_Rs sg tr_s 2 tr_T39 := sv_splitR (ts := tr_ts 39 391) rfl (fun t ht => by
  rcases List.mem_cons.mp ht with rfl | ht
  · exact tr_x39
  rcases List.mem_cons.mp ht with rfl | ht
  · exact tr_lo39
  rcases List.mem_cons.mp ht with rfl | ht
  · exact tr_mi39
  rcases List.mem_cons.mp ht with rfl | ht
  · exact tr_hi39
  · cases ht) (fun w0 w hR hfr hG hf => tr_sp 39 391 (by decide) hR hfr hG)
set_option maxRecDepth 1000000 in
theorem tr_x38 : sv_plR hs_Rs sg tr_s 2 (19, 382, 382, 0, [some (.inr (some 106)), some (.inr (some 33)), some (.inl (0, 4294967295, 0, 0, 0)), some (.inl (2147483686, 2147483686, 0, 0, 0))], [], [(1736705, 2147483648, 2147483686, 0, 0)]) := sv_chunkR (S := [sm_196_11501b45]) (cut := [19]) (cs := [(19, 382, 382, 0, [some (.inr (some 106)), some (.inr (some 33)), some (.inl (0, 4294967295, 0, 0, 0)), some (.inl (2147483686, 2147483686, 0, 0, 0))], [], [(1736705, 2147483648, 2147483686, 0, 0)])]) (ext := []) (sp := []) (N := 1000) tr_h (sv_cv sm_196_11501b45_ok sv_nv) (by decide +kernel) sv_npR _ List.mem_cons_self
set_option maxRecDepth 1000000 in
theorem tr_lo38 : sv_plR hs_Rs sg tr_s 2 (19, 383, 383, 0, [some (.inr (some 106)), some (.inr (some 33)), some (.inl (0, 4294967295, 0, 0, 0)), some (.inl (2147483686, 2147483686, 0, 0, 0))], [], [(1736705, 2147483687, 2147483688, 0, 0), (1753126, 0, 2147483663, 0, 0), (1785894, 0, 4294967295, 0, 0)]) := sv_chunkR (S := [sm_196_11501b45, sm_197_7e2dd2ff, sm_195_929dea69]) (cut := [19]) (cs := [(19, 383, 383, 0, [some (.inr (some 106)), some (.inr (some 33)), some (.inl (0, 4294967295, 0, 0, 0)), some (.inl (2147483686, 2147483686, 0, 0, 0))], [], [(1736705, 2147483687, 2147483688, 0, 0), (1753126, 0, 2147483663, 0, 0), (1785894, 0, 4294967295, 0, 0)])]) (ext := [tr_T39]) (sp := []) (N := 1000) tr_h (sv_cv sm_196_11501b45_ok (sv_cv sm_197_7e2dd2ff_ok (sv_cv sm_195_929dea69_ok sv_nv))) (by decide +kernel) (sv_cpR tr_T39_ok sv_npR) _ List.mem_cons_self
set_option maxRecDepth 1000000 in
theorem tr_mi38 : sv_plR hs_Rs sg tr_s 2 (19, 384, 384, 0, [some (.inr (some 106)), some (.inr (some 33)), some (.inl (0, 4294967295, 0, 0, 0)), some (.inl (2147483686, 2147483686, 0, 0, 0))], [], [(1736705, 2147483687, 2147483688, 0, 0), (1753126, 2147483664, 2147483665, 0, 0), (1785894, 2147483648, 2147483653, 0, 0)]) := sv_chunkR (S := [sm_195_e3d2929e, sm_197_7e2dd2ff]) (cut := [19]) (cs := [(19, 384, 384, 0, [some (.inr (some 106)), some (.inr (some 33)), some (.inl (0, 4294967295, 0, 0, 0)), some (.inl (2147483686, 2147483686, 0, 0, 0))], [], [(1736705, 2147483687, 2147483688, 0, 0), (1753126, 2147483664, 2147483665, 0, 0), (1785894, 2147483648, 2147483653, 0, 0)])]) (ext := [tr_T39]) (sp := []) (N := 1000) tr_h (sv_cv sm_195_e3d2929e_ok (sv_cv sm_197_7e2dd2ff_ok sv_nv)) (by decide +kernel) (sv_cpR tr_T39_ok sv_npR) _ List.mem_cons_self
set_option maxRecDepth 1000000 in
theorem tr_hi38 : sv_plR hs_Rs sg tr_s 2 (19, 385, 385, 0, [some (.inr (some 106)), some (.inr (some 33)), some (.inl (0, 4294967295, 0, 0, 0)), some (.inl (2147483686, 2147483686, 0, 0, 0))], [], [(1736705, 2147483687, 2147483688, 0, 0), (1753126, 2147483666, 4294967295, 0, 0), (1785894, 0, 4294967295, 0, 0)]) := sv_chunkR (S := [sm_195_cfcf0ede, sm_197_7e2dd2ff]) (cut := [19]) (cs := [(19, 385, 385, 0, [some (.inr (some 106)), some (.inr (some 33)), some (.inl (0, 4294967295, 0, 0, 0)), some (.inl (2147483686, 2147483686, 0, 0, 0))], [], [(1736705, 2147483687, 2147483688, 0, 0), (1753126, 2147483666, 4294967295, 0, 0), (1785894, 0, 4294967295, 0, 0)])]) (ext := [tr_T39]) (sp := []) (N := 1000) tr_h (sv_cv sm_195_cfcf0ede_ok (sv_cv sm_197_7e2dd2ff_ok sv_nv)) (by decide +kernel) (sv_cpR tr_T39_ok sv_npR) _ List.mem_cons_self
def tr_T38 : sv_CS := (19, 381, 381, 0, [some (.inr (some 106)), some (.inr (some 33)), some (.inl (0, 4294967295, 0, 0, 0)), some (.inl (2147483686, 2147483686, 0, 0, 0))], [], [(1736705, 2147483648, 2147483688, 0, 0)])
theorem tr_T38_ok : sv_plR hs_Rs sg tr_s 2 tr_T38 := sv_splitR (ts := tr_ts 38 381) rfl (fun t ht => by
  rcases List.mem_cons.mp ht with rfl | ht
  · exact tr_x38
  rcases List.mem_cons.mp ht with rfl | ht
  · exact tr_lo38
  rcases List.mem_cons.mp ht with rfl | ht
  · exact tr_mi38
  rcases List.mem_cons.mp ht with rfl | ht
  · exact tr_hi38
  · cases ht) (fun w0 w hR hfr hG hf => tr_sp 38 381 (by decide) hR hfr hG)
set_option maxRecDepth 1000000 in
theorem tr_x37 : sv_plR hs_Rs sg tr_s 2 (19, 372, 372, 0, [some (.inr (some 106)), some (.inr (some 33)), some (.inl (0, 4294967295, 0, 0, 0)), some (.inl (2147483685, 2147483685, 0, 0, 0))], [], [(1736705, 2147483648, 2147483685, 0, 0)]) := sv_chunkR (S := [sm_196_11501b45]) (cut := [19]) (cs := [(19, 372, 372, 0, [some (.inr (some 106)), some (.inr (some 33)), some (.inl (0, 4294967295, 0, 0, 0)), some (.inl (2147483685, 2147483685, 0, 0, 0))], [], [(1736705, 2147483648, 2147483685, 0, 0)])]) (ext := []) (sp := []) (N := 1000) tr_h (sv_cv sm_196_11501b45_ok sv_nv) (by decide +kernel) sv_npR _ List.mem_cons_self
set_option maxRecDepth 1000000 in
theorem tr_lo37 : sv_plR hs_Rs sg tr_s 2 (19, 373, 373, 0, [some (.inr (some 106)), some (.inr (some 33)), some (.inl (0, 4294967295, 0, 0, 0)), some (.inl (2147483685, 2147483685, 0, 0, 0))], [], [(1736705, 2147483686, 2147483688, 0, 0), (1753125, 0, 2147483663, 0, 0), (1785893, 0, 4294967295, 0, 0)]) := sv_chunkR (S := [sm_196_11501b45, sm_197_7e2dd2ff, sm_195_3e0c020a]) (cut := [19]) (cs := [(19, 373, 373, 0, [some (.inr (some 106)), some (.inr (some 33)), some (.inl (0, 4294967295, 0, 0, 0)), some (.inl (2147483685, 2147483685, 0, 0, 0))], [], [(1736705, 2147483686, 2147483688, 0, 0), (1753125, 0, 2147483663, 0, 0), (1785893, 0, 4294967295, 0, 0)])]) (ext := [tr_T38]) (sp := []) (N := 1000) tr_h (sv_cv sm_196_11501b45_ok (sv_cv sm_197_7e2dd2ff_ok (sv_cv sm_195_3e0c020a_ok sv_nv))) (by decide +kernel) (sv_cpR tr_T38_ok sv_npR) _ List.mem_cons_self
set_option maxRecDepth 1000000 in
theorem tr_mi37 : sv_plR hs_Rs sg tr_s 2 (19, 374, 374, 0, [some (.inr (some 106)), some (.inr (some 33)), some (.inl (0, 4294967295, 0, 0, 0)), some (.inl (2147483685, 2147483685, 0, 0, 0))], [], [(1736705, 2147483686, 2147483688, 0, 0), (1753125, 2147483664, 2147483665, 0, 0), (1785893, 2147483648, 2147483653, 0, 0)]) := sv_chunkR (S := [sm_195_c6dcdc89, sm_197_7e2dd2ff]) (cut := [19]) (cs := [(19, 374, 374, 0, [some (.inr (some 106)), some (.inr (some 33)), some (.inl (0, 4294967295, 0, 0, 0)), some (.inl (2147483685, 2147483685, 0, 0, 0))], [], [(1736705, 2147483686, 2147483688, 0, 0), (1753125, 2147483664, 2147483665, 0, 0), (1785893, 2147483648, 2147483653, 0, 0)])]) (ext := [tr_T38]) (sp := []) (N := 1000) tr_h (sv_cv sm_195_c6dcdc89_ok (sv_cv sm_197_7e2dd2ff_ok sv_nv)) (by decide +kernel) (sv_cpR tr_T38_ok sv_npR) _ List.mem_cons_self
set_option maxRecDepth 1000000 in
theorem tr_hi37 : sv_plR hs_Rs sg tr_s 2 (19, 375, 375, 0, [some (.inr (some 106)), some (.inr (some 33)), some (.inl (0, 4294967295, 0, 0, 0)), some (.inl (2147483685, 2147483685, 0, 0, 0))], [], [(1736705, 2147483686, 2147483688, 0, 0), (1753125, 2147483666, 4294967295, 0, 0), (1785893, 0, 4294967295, 0, 0)]) := sv_chunkR (S := [sm_195_ed4ebbfa, sm_197_7e2dd2ff]) (cut := [19]) (cs := [(19, 375, 375, 0, [some (.inr (some 106)), some (.inr (some 33)), some (.inl (0, 4294967295, 0, 0, 0)), some (.inl (2147483685, 2147483685, 0, 0, 0))], [], [(1736705, 2147483686, 2147483688, 0, 0), (1753125, 2147483666, 4294967295, 0, 0), (1785893, 0, 4294967295, 0, 0)])]) (ext := [tr_T38]) (sp := []) (N := 1000) tr_h (sv_cv sm_195_ed4ebbfa_ok (sv_cv sm_197_7e2dd2ff_ok sv_nv)) (by decide +kernel) (sv_cpR tr_T38_ok sv_npR) _ List.mem_cons_self
def tr_T37 : sv_CS := (19, 371, 371, 0, [some (.inr (some 106)), some (.inr (some 33)), some (.inl (0, 4294967295, 0, 0, 0)), some (.inl (2147483685, 2147483685, 0, 0, 0))], [], [(1736705, 2147483648, 2147483688, 0, 0)])
theorem tr_T37_ok : sv_plR hs_Rs sg tr_s 2 tr_T37 := sv_splitR (ts := tr_ts 37 371) rfl (fun t ht => by
  rcases List.mem_cons.mp ht with rfl | ht
  · exact tr_x37
  rcases List.mem_cons.mp ht with rfl | ht
  · exact tr_lo37
  rcases List.mem_cons.mp ht with rfl | ht
  · exact tr_mi37
  rcases List.mem_cons.mp ht with rfl | ht
  · exact tr_hi37
  · cases ht) (fun w0 w hR hfr hG hf => tr_sp 37 371 (by decide) hR hfr hG)
set_option maxRecDepth 1000000 in
theorem tr_x36 : sv_plR hs_Rs sg tr_s 2 (19, 362, 362, 0, [some (.inr (some 106)), some (.inr (some 33)), some (.inl (0, 4294967295, 0, 0, 0)), some (.inl (2147483684, 2147483684, 0, 0, 0))], [], [(1736705, 2147483648, 2147483684, 0, 0)]) := sv_chunkR (S := [sm_196_11501b45]) (cut := [19]) (cs := [(19, 362, 362, 0, [some (.inr (some 106)), some (.inr (some 33)), some (.inl (0, 4294967295, 0, 0, 0)), some (.inl (2147483684, 2147483684, 0, 0, 0))], [], [(1736705, 2147483648, 2147483684, 0, 0)])]) (ext := []) (sp := []) (N := 1000) tr_h (sv_cv sm_196_11501b45_ok sv_nv) (by decide +kernel) sv_npR _ List.mem_cons_self
set_option maxRecDepth 1000000 in
theorem tr_lo36 : sv_plR hs_Rs sg tr_s 2 (19, 363, 363, 0, [some (.inr (some 106)), some (.inr (some 33)), some (.inl (0, 4294967295, 0, 0, 0)), some (.inl (2147483684, 2147483684, 0, 0, 0))], [], [(1736705, 2147483685, 2147483688, 0, 0), (1753124, 0, 2147483663, 0, 0), (1785892, 0, 4294967295, 0, 0)]) := sv_chunkR (S := [sm_196_11501b45, sm_197_7e2dd2ff, sm_195_5831f607]) (cut := [19]) (cs := [(19, 363, 363, 0, [some (.inr (some 106)), some (.inr (some 33)), some (.inl (0, 4294967295, 0, 0, 0)), some (.inl (2147483684, 2147483684, 0, 0, 0))], [], [(1736705, 2147483685, 2147483688, 0, 0), (1753124, 0, 2147483663, 0, 0), (1785892, 0, 4294967295, 0, 0)])]) (ext := [tr_T37]) (sp := []) (N := 1000) tr_h (sv_cv sm_196_11501b45_ok (sv_cv sm_197_7e2dd2ff_ok (sv_cv sm_195_5831f607_ok sv_nv))) (by decide +kernel) (sv_cpR tr_T37_ok sv_npR) _ List.mem_cons_self
set_option maxRecDepth 1000000 in
theorem tr_mi36 : sv_plR hs_Rs sg tr_s 2 (19, 364, 364, 0, [some (.inr (some 106)), some (.inr (some 33)), some (.inl (0, 4294967295, 0, 0, 0)), some (.inl (2147483684, 2147483684, 0, 0, 0))], [], [(1736705, 2147483685, 2147483688, 0, 0), (1753124, 2147483664, 2147483665, 0, 0), (1785892, 2147483648, 2147483653, 0, 0)]) := sv_chunkR (S := [sm_195_ffe82b11, sm_197_7e2dd2ff]) (cut := [19]) (cs := [(19, 364, 364, 0, [some (.inr (some 106)), some (.inr (some 33)), some (.inl (0, 4294967295, 0, 0, 0)), some (.inl (2147483684, 2147483684, 0, 0, 0))], [], [(1736705, 2147483685, 2147483688, 0, 0), (1753124, 2147483664, 2147483665, 0, 0), (1785892, 2147483648, 2147483653, 0, 0)])]) (ext := [tr_T37]) (sp := []) (N := 1000) tr_h (sv_cv sm_195_ffe82b11_ok (sv_cv sm_197_7e2dd2ff_ok sv_nv)) (by decide +kernel) (sv_cpR tr_T37_ok sv_npR) _ List.mem_cons_self
set_option maxRecDepth 1000000 in
theorem tr_hi36 : sv_plR hs_Rs sg tr_s 2 (19, 365, 365, 0, [some (.inr (some 106)), some (.inr (some 33)), some (.inl (0, 4294967295, 0, 0, 0)), some (.inl (2147483684, 2147483684, 0, 0, 0))], [], [(1736705, 2147483685, 2147483688, 0, 0), (1753124, 2147483666, 4294967295, 0, 0), (1785892, 0, 4294967295, 0, 0)]) := sv_chunkR (S := [sm_195_f17c84ca, sm_197_7e2dd2ff]) (cut := [19]) (cs := [(19, 365, 365, 0, [some (.inr (some 106)), some (.inr (some 33)), some (.inl (0, 4294967295, 0, 0, 0)), some (.inl (2147483684, 2147483684, 0, 0, 0))], [], [(1736705, 2147483685, 2147483688, 0, 0), (1753124, 2147483666, 4294967295, 0, 0), (1785892, 0, 4294967295, 0, 0)])]) (ext := [tr_T37]) (sp := []) (N := 1000) tr_h (sv_cv sm_195_f17c84ca_ok (sv_cv sm_197_7e2dd2ff_ok sv_nv)) (by decide +kernel) (sv_cpR tr_T37_ok sv_npR) _ List.mem_cons_self
def tr_T36 : sv_CS := (19, 361, 361, 0, [some (.inr (some 106)), some (.inr (some 33)), some (.inl (0, 4294967295, 0, 0, 0)), some (.inl (2147483684, 2147483684, 0, 0, 0))], [], [(1736705, 2147483648, 2147483688, 0, 0)])
theorem tr_T36_ok : sv_plR hs_Rs sg tr_s 2 tr_T36 := sv_splitR (ts := tr_ts 36 361) rfl (fun t ht => by
  rcases List.mem_cons.mp ht with rfl | ht
  · exact tr_x36
  rcases List.mem_cons.mp ht with rfl | ht
  · exact tr_lo36
  rcases List.mem_cons.mp ht with rfl | ht
  · exact tr_mi36
  rcases List.mem_cons.mp ht with rfl | ht
  · exact tr_hi36
  · cases ht) (fun w0 w hR hfr hG hf => tr_sp 36 361 (by decide) hR hfr hG)
set_option maxRecDepth 1000000 in
theorem tr_x35 : sv_plR hs_Rs sg tr_s 2 (19, 352, 352, 0, [some (.inr (some 106)), some (.inr (some 33)), some (.inl (0, 4294967295, 0, 0, 0)), some (.inl (2147483683, 2147483683, 0, 0, 0))], [], [(1736705, 2147483648, 2147483683, 0, 0)]) := sv_chunkR (S := [sm_196_11501b45]) (cut := [19]) (cs := [(19, 352, 352, 0, [some (.inr (some 106)), some (.inr (some 33)), some (.inl (0, 4294967295, 0, 0, 0)), some (.inl (2147483683, 2147483683, 0, 0, 0))], [], [(1736705, 2147483648, 2147483683, 0, 0)])]) (ext := []) (sp := []) (N := 1000) tr_h (sv_cv sm_196_11501b45_ok sv_nv) (by decide +kernel) sv_npR _ List.mem_cons_self
set_option maxRecDepth 1000000 in
theorem tr_lo35 : sv_plR hs_Rs sg tr_s 2 (19, 353, 353, 0, [some (.inr (some 106)), some (.inr (some 33)), some (.inl (0, 4294967295, 0, 0, 0)), some (.inl (2147483683, 2147483683, 0, 0, 0))], [], [(1736705, 2147483684, 2147483688, 0, 0), (1753123, 0, 2147483663, 0, 0), (1785891, 0, 4294967295, 0, 0)]) := sv_chunkR (S := [sm_196_11501b45, sm_197_7e2dd2ff, sm_195_b726c811]) (cut := [19]) (cs := [(19, 353, 353, 0, [some (.inr (some 106)), some (.inr (some 33)), some (.inl (0, 4294967295, 0, 0, 0)), some (.inl (2147483683, 2147483683, 0, 0, 0))], [], [(1736705, 2147483684, 2147483688, 0, 0), (1753123, 0, 2147483663, 0, 0), (1785891, 0, 4294967295, 0, 0)])]) (ext := [tr_T36]) (sp := []) (N := 1000) tr_h (sv_cv sm_196_11501b45_ok (sv_cv sm_197_7e2dd2ff_ok (sv_cv sm_195_b726c811_ok sv_nv))) (by decide +kernel) (sv_cpR tr_T36_ok sv_npR) _ List.mem_cons_self
set_option maxRecDepth 1000000 in
theorem tr_mi35 : sv_plR hs_Rs sg tr_s 2 (19, 354, 354, 0, [some (.inr (some 106)), some (.inr (some 33)), some (.inl (0, 4294967295, 0, 0, 0)), some (.inl (2147483683, 2147483683, 0, 0, 0))], [], [(1736705, 2147483684, 2147483688, 0, 0), (1753123, 2147483664, 2147483665, 0, 0), (1785891, 2147483648, 2147483653, 0, 0)]) := sv_chunkR (S := [sm_195_3e35bb66, sm_197_7e2dd2ff]) (cut := [19]) (cs := [(19, 354, 354, 0, [some (.inr (some 106)), some (.inr (some 33)), some (.inl (0, 4294967295, 0, 0, 0)), some (.inl (2147483683, 2147483683, 0, 0, 0))], [], [(1736705, 2147483684, 2147483688, 0, 0), (1753123, 2147483664, 2147483665, 0, 0), (1785891, 2147483648, 2147483653, 0, 0)])]) (ext := [tr_T36]) (sp := []) (N := 1000) tr_h (sv_cv sm_195_3e35bb66_ok (sv_cv sm_197_7e2dd2ff_ok sv_nv)) (by decide +kernel) (sv_cpR tr_T36_ok sv_npR) _ List.mem_cons_self
set_option maxRecDepth 1000000 in
theorem tr_hi35 : sv_plR hs_Rs sg tr_s 2 (19, 355, 355, 0, [some (.inr (some 106)), some (.inr (some 33)), some (.inl (0, 4294967295, 0, 0, 0)), some (.inl (2147483683, 2147483683, 0, 0, 0))], [], [(1736705, 2147483684, 2147483688, 0, 0), (1753123, 2147483666, 4294967295, 0, 0), (1785891, 0, 4294967295, 0, 0)]) := sv_chunkR (S := [sm_195_a335cd2e, sm_197_7e2dd2ff]) (cut := [19]) (cs := [(19, 355, 355, 0, [some (.inr (some 106)), some (.inr (some 33)), some (.inl (0, 4294967295, 0, 0, 0)), some (.inl (2147483683, 2147483683, 0, 0, 0))], [], [(1736705, 2147483684, 2147483688, 0, 0), (1753123, 2147483666, 4294967295, 0, 0), (1785891, 0, 4294967295, 0, 0)])]) (ext := [tr_T36]) (sp := []) (N := 1000) tr_h (sv_cv sm_195_a335cd2e_ok (sv_cv sm_197_7e2dd2ff_ok sv_nv)) (by decide +kernel) (sv_cpR tr_T36_ok sv_npR) _ List.mem_cons_self
def tr_T35 : sv_CS := (19, 351, 351, 0, [some (.inr (some 106)), some (.inr (some 33)), some (.inl (0, 4294967295, 0, 0, 0)), some (.inl (2147483683, 2147483683, 0, 0, 0))], [], [(1736705, 2147483648, 2147483688, 0, 0)])
theorem tr_T35_ok : sv_plR hs_Rs sg tr_s 2 tr_T35 := sv_splitR (ts := tr_ts 35 351) rfl (fun t ht => by
  rcases List.mem_cons.mp ht with rfl | ht
  · exact tr_x35
  rcases List.mem_cons.mp ht with rfl | ht
  · exact tr_lo35
  rcases List.mem_cons.mp ht with rfl | ht
  · exact tr_mi35
  rcases List.mem_cons.mp ht with rfl | ht
  · exact tr_hi35
  · cases ht) (fun w0 w hR hfr hG hf => tr_sp 35 351 (by decide) hR hfr hG)
set_option maxRecDepth 1000000 in
theorem tr_x34 : sv_plR hs_Rs sg tr_s 2 (19, 342, 342, 0, [some (.inr (some 106)), some (.inr (some 33)), some (.inl (0, 4294967295, 0, 0, 0)), some (.inl (2147483682, 2147483682, 0, 0, 0))], [], [(1736705, 2147483648, 2147483682, 0, 0)]) := sv_chunkR (S := [sm_196_11501b45]) (cut := [19]) (cs := [(19, 342, 342, 0, [some (.inr (some 106)), some (.inr (some 33)), some (.inl (0, 4294967295, 0, 0, 0)), some (.inl (2147483682, 2147483682, 0, 0, 0))], [], [(1736705, 2147483648, 2147483682, 0, 0)])]) (ext := []) (sp := []) (N := 1000) tr_h (sv_cv sm_196_11501b45_ok sv_nv) (by decide +kernel) sv_npR _ List.mem_cons_self
set_option maxRecDepth 1000000 in
theorem tr_lo34 : sv_plR hs_Rs sg tr_s 2 (19, 343, 343, 0, [some (.inr (some 106)), some (.inr (some 33)), some (.inl (0, 4294967295, 0, 0, 0)), some (.inl (2147483682, 2147483682, 0, 0, 0))], [], [(1736705, 2147483683, 2147483688, 0, 0), (1753122, 0, 2147483663, 0, 0), (1785890, 0, 4294967295, 0, 0)]) := sv_chunkR (S := [sm_196_11501b45, sm_197_7e2dd2ff, sm_195_d11b3c1c]) (cut := [19]) (cs := [(19, 343, 343, 0, [some (.inr (some 106)), some (.inr (some 33)), some (.inl (0, 4294967295, 0, 0, 0)), some (.inl (2147483682, 2147483682, 0, 0, 0))], [], [(1736705, 2147483683, 2147483688, 0, 0), (1753122, 0, 2147483663, 0, 0), (1785890, 0, 4294967295, 0, 0)])]) (ext := [tr_T35]) (sp := []) (N := 1000) tr_h (sv_cv sm_196_11501b45_ok (sv_cv sm_197_7e2dd2ff_ok (sv_cv sm_195_d11b3c1c_ok sv_nv))) (by decide +kernel) (sv_cpR tr_T35_ok sv_npR) _ List.mem_cons_self
set_option maxRecDepth 1000000 in
theorem tr_mi34 : sv_plR hs_Rs sg tr_s 2 (19, 344, 344, 0, [some (.inr (some 106)), some (.inr (some 33)), some (.inl (0, 4294967295, 0, 0, 0)), some (.inl (2147483682, 2147483682, 0, 0, 0))], [], [(1736705, 2147483683, 2147483688, 0, 0), (1753122, 2147483664, 2147483665, 0, 0), (1785890, 2147483648, 2147483653, 0, 0)]) := sv_chunkR (S := [sm_195_07014cfe, sm_197_7e2dd2ff]) (cut := [19]) (cs := [(19, 344, 344, 0, [some (.inr (some 106)), some (.inr (some 33)), some (.inl (0, 4294967295, 0, 0, 0)), some (.inl (2147483682, 2147483682, 0, 0, 0))], [], [(1736705, 2147483683, 2147483688, 0, 0), (1753122, 2147483664, 2147483665, 0, 0), (1785890, 2147483648, 2147483653, 0, 0)])]) (ext := [tr_T35]) (sp := []) (N := 1000) tr_h (sv_cv sm_195_07014cfe_ok (sv_cv sm_197_7e2dd2ff_ok sv_nv)) (by decide +kernel) (sv_cpR tr_T35_ok sv_npR) _ List.mem_cons_self
set_option maxRecDepth 1000000 in
theorem tr_hi34 : sv_plR hs_Rs sg tr_s 2 (19, 345, 345, 0, [some (.inr (some 106)), some (.inr (some 33)), some (.inl (0, 4294967295, 0, 0, 0)), some (.inl (2147483682, 2147483682, 0, 0, 0))], [], [(1736705, 2147483683, 2147483688, 0, 0), (1753122, 2147483666, 4294967295, 0, 0), (1785890, 0, 4294967295, 0, 0)]) := sv_chunkR (S := [sm_195_bf07f21e, sm_197_7e2dd2ff]) (cut := [19]) (cs := [(19, 345, 345, 0, [some (.inr (some 106)), some (.inr (some 33)), some (.inl (0, 4294967295, 0, 0, 0)), some (.inl (2147483682, 2147483682, 0, 0, 0))], [], [(1736705, 2147483683, 2147483688, 0, 0), (1753122, 2147483666, 4294967295, 0, 0), (1785890, 0, 4294967295, 0, 0)])]) (ext := [tr_T35]) (sp := []) (N := 1000) tr_h (sv_cv sm_195_bf07f21e_ok (sv_cv sm_197_7e2dd2ff_ok sv_nv)) (by decide +kernel) (sv_cpR tr_T35_ok sv_npR) _ List.mem_cons_self
def tr_T34 : sv_CS := (19, 341, 341, 0, [some (.inr (some 106)), some (.inr (some 33)), some (.inl (0, 4294967295, 0, 0, 0)), some (.inl (2147483682, 2147483682, 0, 0, 0))], [], [(1736705, 2147483648, 2147483688, 0, 0)])
theorem tr_T34_ok : sv_plR hs_Rs sg tr_s 2 tr_T34 := sv_splitR (ts := tr_ts 34 341) rfl (fun t ht => by
  rcases List.mem_cons.mp ht with rfl | ht
  · exact tr_x34
  rcases List.mem_cons.mp ht with rfl | ht
  · exact tr_lo34
  rcases List.mem_cons.mp ht with rfl | ht
  · exact tr_mi34
  rcases List.mem_cons.mp ht with rfl | ht
  · exact tr_hi34
  · cases ht) (fun w0 w hR hfr hG hf => tr_sp 34 341 (by decide) hR hfr hG)
set_option maxRecDepth 1000000 in
theorem tr_x33 : sv_plR hs_Rs sg tr_s 2 (19, 332, 332, 0, [some (.inr (some 106)), some (.inr (some 33)), some (.inl (0, 4294967295, 0, 0, 0)), some (.inl (2147483681, 2147483681, 0, 0, 0))], [], [(1736705, 2147483648, 2147483681, 0, 0)]) := sv_chunkR (S := [sm_196_11501b45]) (cut := [19]) (cs := [(19, 332, 332, 0, [some (.inr (some 106)), some (.inr (some 33)), some (.inl (0, 4294967295, 0, 0, 0)), some (.inl (2147483681, 2147483681, 0, 0, 0))], [], [(1736705, 2147483648, 2147483681, 0, 0)])]) (ext := []) (sp := []) (N := 1000) tr_h (sv_cv sm_196_11501b45_ok sv_nv) (by decide +kernel) sv_npR _ List.mem_cons_self
set_option maxRecDepth 1000000 in
theorem tr_lo33 : sv_plR hs_Rs sg tr_s 2 (19, 333, 333, 0, [some (.inr (some 106)), some (.inr (some 33)), some (.inl (0, 4294967295, 0, 0, 0)), some (.inl (2147483681, 2147483681, 0, 0, 0))], [], [(1736705, 2147483682, 2147483688, 0, 0), (1753121, 0, 2147483663, 0, 0), (1785889, 0, 4294967295, 0, 0)]) := sv_chunkR (S := [sm_196_11501b45, sm_197_7e2dd2ff, sm_195_169eebfd]) (cut := [19]) (cs := [(19, 333, 333, 0, [some (.inr (some 106)), some (.inr (some 33)), some (.inl (0, 4294967295, 0, 0, 0)), some (.inl (2147483681, 2147483681, 0, 0, 0))], [], [(1736705, 2147483682, 2147483688, 0, 0), (1753121, 0, 2147483663, 0, 0), (1785889, 0, 4294967295, 0, 0)])]) (ext := [tr_T34]) (sp := []) (N := 1000) tr_h (sv_cv sm_196_11501b45_ok (sv_cv sm_197_7e2dd2ff_ok (sv_cv sm_195_169eebfd_ok sv_nv))) (by decide +kernel) (sv_cpR tr_T34_ok sv_npR) _ List.mem_cons_self
set_option maxRecDepth 1000000 in
theorem tr_mi33 : sv_plR hs_Rs sg tr_s 2 (19, 334, 334, 0, [some (.inr (some 106)), some (.inr (some 33)), some (.inl (0, 4294967295, 0, 0, 0)), some (.inl (2147483681, 2147483681, 0, 0, 0))], [], [(1736705, 2147483682, 2147483688, 0, 0), (1753121, 2147483664, 2147483665, 0, 0), (1785889, 2147483648, 2147483653, 0, 0)]) := sv_chunkR (S := [sm_195_c7e32cb5, sm_197_7e2dd2ff]) (cut := [19]) (cs := [(19, 334, 334, 0, [some (.inr (some 106)), some (.inr (some 33)), some (.inl (0, 4294967295, 0, 0, 0)), some (.inl (2147483681, 2147483681, 0, 0, 0))], [], [(1736705, 2147483682, 2147483688, 0, 0), (1753121, 2147483664, 2147483665, 0, 0), (1785889, 2147483648, 2147483653, 0, 0)])]) (ext := [tr_T34]) (sp := []) (N := 1000) tr_h (sv_cv sm_195_c7e32cb5_ok (sv_cv sm_197_7e2dd2ff_ok sv_nv)) (by decide +kernel) (sv_cpR tr_T34_ok sv_npR) _ List.mem_cons_self
set_option maxRecDepth 1000000 in
theorem tr_hi33 : sv_plR hs_Rs sg tr_s 2 (19, 335, 335, 0, [some (.inr (some 106)), some (.inr (some 33)), some (.inl (0, 4294967295, 0, 0, 0)), some (.inl (2147483681, 2147483681, 0, 0, 0))], [], [(1736705, 2147483682, 2147483688, 0, 0), (1753121, 2147483666, 4294967295, 0, 0), (1785889, 0, 4294967295, 0, 0)]) := sv_chunkR (S := [sm_195_f69278b8, sm_197_7e2dd2ff]) (cut := [19]) (cs := [(19, 335, 335, 0, [some (.inr (some 106)), some (.inr (some 33)), some (.inl (0, 4294967295, 0, 0, 0)), some (.inl (2147483681, 2147483681, 0, 0, 0))], [], [(1736705, 2147483682, 2147483688, 0, 0), (1753121, 2147483666, 4294967295, 0, 0), (1785889, 0, 4294967295, 0, 0)])]) (ext := [tr_T34]) (sp := []) (N := 1000) tr_h (sv_cv sm_195_f69278b8_ok (sv_cv sm_197_7e2dd2ff_ok sv_nv)) (by decide +kernel) (sv_cpR tr_T34_ok sv_npR) _ List.mem_cons_self
def tr_T33 : sv_CS := (19, 331, 331, 0, [some (.inr (some 106)), some (.inr (some 33)), some (.inl (0, 4294967295, 0, 0, 0)), some (.inl (2147483681, 2147483681, 0, 0, 0))], [], [(1736705, 2147483648, 2147483688, 0, 0)])
theorem tr_T33_ok : sv_plR hs_Rs sg tr_s 2 tr_T33 := sv_splitR (ts := tr_ts 33 331) rfl (fun t ht => by
  rcases List.mem_cons.mp ht with rfl | ht
  · exact tr_x33
  rcases List.mem_cons.mp ht with rfl | ht
  · exact tr_lo33
  rcases List.mem_cons.mp ht with rfl | ht
  · exact tr_mi33
  rcases List.mem_cons.mp ht with rfl | ht
  · exact tr_hi33
  · cases ht) (fun w0 w hR hfr hG hf => tr_sp 33 331 (by decide) hR hfr hG)
set_option maxRecDepth 1000000 in
theorem tr_x32 : sv_plR hs_Rs sg tr_s 2 (19, 322, 322, 0, [some (.inr (some 106)), some (.inr (some 33)), some (.inl (0, 4294967295, 0, 0, 0)), some (.inl (2147483680, 2147483680, 0, 0, 0))], [], [(1736705, 2147483648, 2147483680, 0, 0)]) := sv_chunkR (S := [sm_196_11501b45]) (cut := [19]) (cs := [(19, 322, 322, 0, [some (.inr (some 106)), some (.inr (some 33)), some (.inl (0, 4294967295, 0, 0, 0)), some (.inl (2147483680, 2147483680, 0, 0, 0))], [], [(1736705, 2147483648, 2147483680, 0, 0)])]) (ext := []) (sp := []) (N := 1000) tr_h (sv_cv sm_196_11501b45_ok sv_nv) (by decide +kernel) sv_npR _ List.mem_cons_self
set_option maxRecDepth 1000000 in
theorem tr_lo32 : sv_plR hs_Rs sg tr_s 2 (19, 323, 323, 0, [some (.inr (some 106)), some (.inr (some 33)), some (.inl (0, 4294967295, 0, 0, 0)), some (.inl (2147483680, 2147483680, 0, 0, 0))], [], [(1736705, 2147483681, 2147483688, 0, 0), (1753120, 0, 2147483663, 0, 0), (1785888, 0, 4294967295, 0, 0)]) := sv_chunkR (S := [sm_196_11501b45, sm_197_7e2dd2ff, sm_195_70a31ff0]) (cut := [19]) (cs := [(19, 323, 323, 0, [some (.inr (some 106)), some (.inr (some 33)), some (.inl (0, 4294967295, 0, 0, 0)), some (.inl (2147483680, 2147483680, 0, 0, 0))], [], [(1736705, 2147483681, 2147483688, 0, 0), (1753120, 0, 2147483663, 0, 0), (1785888, 0, 4294967295, 0, 0)])]) (ext := [tr_T33]) (sp := []) (N := 1000) tr_h (sv_cv sm_196_11501b45_ok (sv_cv sm_197_7e2dd2ff_ok (sv_cv sm_195_70a31ff0_ok sv_nv))) (by decide +kernel) (sv_cpR tr_T33_ok sv_npR) _ List.mem_cons_self
set_option maxRecDepth 1000000 in
theorem tr_mi32 : sv_plR hs_Rs sg tr_s 2 (19, 324, 324, 0, [some (.inr (some 106)), some (.inr (some 33)), some (.inl (0, 4294967295, 0, 0, 0)), some (.inl (2147483680, 2147483680, 0, 0, 0))], [], [(1736705, 2147483681, 2147483688, 0, 0), (1753120, 2147483664, 2147483665, 0, 0), (1785888, 2147483648, 2147483653, 0, 0)]) := sv_chunkR (S := [sm_195_fed7db2d, sm_197_7e2dd2ff]) (cut := [19]) (cs := [(19, 324, 324, 0, [some (.inr (some 106)), some (.inr (some 33)), some (.inl (0, 4294967295, 0, 0, 0)), some (.inl (2147483680, 2147483680, 0, 0, 0))], [], [(1736705, 2147483681, 2147483688, 0, 0), (1753120, 2147483664, 2147483665, 0, 0), (1785888, 2147483648, 2147483653, 0, 0)])]) (ext := [tr_T33]) (sp := []) (N := 1000) tr_h (sv_cv sm_195_fed7db2d_ok (sv_cv sm_197_7e2dd2ff_ok sv_nv)) (by decide +kernel) (sv_cpR tr_T33_ok sv_npR) _ List.mem_cons_self
set_option maxRecDepth 1000000 in
theorem tr_hi32 : sv_plR hs_Rs sg tr_s 2 (19, 325, 325, 0, [some (.inr (some 106)), some (.inr (some 33)), some (.inl (0, 4294967295, 0, 0, 0)), some (.inl (2147483680, 2147483680, 0, 0, 0))], [], [(1736705, 2147483681, 2147483688, 0, 0), (1753120, 2147483666, 4294967295, 0, 0), (1785888, 0, 4294967295, 0, 0)]) := sv_chunkR (S := [sm_195_eaa04788, sm_197_7e2dd2ff]) (cut := [19]) (cs := [(19, 325, 325, 0, [some (.inr (some 106)), some (.inr (some 33)), some (.inl (0, 4294967295, 0, 0, 0)), some (.inl (2147483680, 2147483680, 0, 0, 0))], [], [(1736705, 2147483681, 2147483688, 0, 0), (1753120, 2147483666, 4294967295, 0, 0), (1785888, 0, 4294967295, 0, 0)])]) (ext := [tr_T33]) (sp := []) (N := 1000) tr_h (sv_cv sm_195_eaa04788_ok (sv_cv sm_197_7e2dd2ff_ok sv_nv)) (by decide +kernel) (sv_cpR tr_T33_ok sv_npR) _ List.mem_cons_self
def tr_T32 : sv_CS := (19, 321, 321, 0, [some (.inr (some 106)), some (.inr (some 33)), some (.inl (0, 4294967295, 0, 0, 0)), some (.inl (2147483680, 2147483680, 0, 0, 0))], [], [(1736705, 2147483648, 2147483688, 0, 0)])
theorem tr_T32_ok : sv_plR hs_Rs sg tr_s 2 tr_T32 := sv_splitR (ts := tr_ts 32 321) rfl (fun t ht => by
  rcases List.mem_cons.mp ht with rfl | ht
  · exact tr_x32
  rcases List.mem_cons.mp ht with rfl | ht
  · exact tr_lo32
  rcases List.mem_cons.mp ht with rfl | ht
  · exact tr_mi32
  rcases List.mem_cons.mp ht with rfl | ht
  · exact tr_hi32
  · cases ht) (fun w0 w hR hfr hG hf => tr_sp 32 321 (by decide) hR hfr hG)
set_option maxRecDepth 1000000 in
theorem tr_x31 : sv_plR hs_Rs sg tr_s 2 (19, 312, 312, 0, [some (.inr (some 106)), some (.inr (some 33)), some (.inl (0, 4294967295, 0, 0, 0)), some (.inl (2147483679, 2147483679, 0, 0, 0))], [], [(1736705, 2147483648, 2147483679, 0, 0)]) := sv_chunkR (S := [sm_196_11501b45]) (cut := [19]) (cs := [(19, 312, 312, 0, [some (.inr (some 106)), some (.inr (some 33)), some (.inl (0, 4294967295, 0, 0, 0)), some (.inl (2147483679, 2147483679, 0, 0, 0))], [], [(1736705, 2147483648, 2147483679, 0, 0)])]) (ext := []) (sp := []) (N := 1000) tr_h (sv_cv sm_196_11501b45_ok sv_nv) (by decide +kernel) sv_npR _ List.mem_cons_self
set_option maxRecDepth 1000000 in
theorem tr_lo31 : sv_plR hs_Rs sg tr_s 2 (19, 313, 313, 0, [some (.inr (some 106)), some (.inr (some 33)), some (.inl (0, 4294967295, 0, 0, 0)), some (.inl (2147483679, 2147483679, 0, 0, 0))], [], [(1736705, 2147483680, 2147483688, 0, 0), (1753119, 0, 2147483663, 0, 0), (1785887, 0, 4294967295, 0, 0)]) := sv_chunkR (S := [sm_196_11501b45, sm_197_7e2dd2ff, sm_195_5f5414f5]) (cut := [19]) (cs := [(19, 313, 313, 0, [some (.inr (some 106)), some (.inr (some 33)), some (.inl (0, 4294967295, 0, 0, 0)), some (.inl (2147483679, 2147483679, 0, 0, 0))], [], [(1736705, 2147483680, 2147483688, 0, 0), (1753119, 0, 2147483663, 0, 0), (1785887, 0, 4294967295, 0, 0)])]) (ext := [tr_T32]) (sp := []) (N := 1000) tr_h (sv_cv sm_196_11501b45_ok (sv_cv sm_197_7e2dd2ff_ok (sv_cv sm_195_5f5414f5_ok sv_nv))) (by decide +kernel) (sv_cpR tr_T32_ok sv_npR) _ List.mem_cons_self
set_option maxRecDepth 1000000 in
theorem tr_mi31 : sv_plR hs_Rs sg tr_s 2 (19, 314, 314, 0, [some (.inr (some 106)), some (.inr (some 33)), some (.inl (0, 4294967295, 0, 0, 0)), some (.inl (2147483679, 2147483679, 0, 0, 0))], [], [(1736705, 2147483680, 2147483688, 0, 0), (1753119, 2147483664, 2147483665, 0, 0), (1785887, 2147483648, 2147483653, 0, 0)]) := sv_chunkR (S := [sm_195_09bf2548, sm_197_7e2dd2ff]) (cut := [19]) (cs := [(19, 314, 314, 0, [some (.inr (some 106)), some (.inr (some 33)), some (.inl (0, 4294967295, 0, 0, 0)), some (.inl (2147483679, 2147483679, 0, 0, 0))], [], [(1736705, 2147483680, 2147483688, 0, 0), (1753119, 2147483664, 2147483665, 0, 0), (1785887, 2147483648, 2147483653, 0, 0)])]) (ext := [tr_T32]) (sp := []) (N := 1000) tr_h (sv_cv sm_195_09bf2548_ok (sv_cv sm_197_7e2dd2ff_ok sv_nv)) (by decide +kernel) (sv_cpR tr_T32_ok sv_npR) _ List.mem_cons_self
set_option maxRecDepth 1000000 in
theorem tr_hi31 : sv_plR hs_Rs sg tr_s 2 (19, 315, 315, 0, [some (.inr (some 106)), some (.inr (some 33)), some (.inl (0, 4294967295, 0, 0, 0)), some (.inl (2147483679, 2147483679, 0, 0, 0))], [], [(1736705, 2147483680, 2147483688, 0, 0), (1753119, 2147483666, 4294967295, 0, 0), (1785887, 0, 4294967295, 0, 0)]) := sv_chunkR (S := [sm_195_4b4c723f, sm_197_7e2dd2ff]) (cut := [19]) (cs := [(19, 315, 315, 0, [some (.inr (some 106)), some (.inr (some 33)), some (.inl (0, 4294967295, 0, 0, 0)), some (.inl (2147483679, 2147483679, 0, 0, 0))], [], [(1736705, 2147483680, 2147483688, 0, 0), (1753119, 2147483666, 4294967295, 0, 0), (1785887, 0, 4294967295, 0, 0)])]) (ext := [tr_T32]) (sp := []) (N := 1000) tr_h (sv_cv sm_195_4b4c723f_ok (sv_cv sm_197_7e2dd2ff_ok sv_nv)) (by decide +kernel) (sv_cpR tr_T32_ok sv_npR) _ List.mem_cons_self
def tr_T31 : sv_CS := (19, 311, 311, 0, [some (.inr (some 106)), some (.inr (some 33)), some (.inl (0, 4294967295, 0, 0, 0)), some (.inl (2147483679, 2147483679, 0, 0, 0))], [], [(1736705, 2147483648, 2147483688, 0, 0)])
theorem tr_T31_ok : sv_plR hs_Rs sg tr_s 2 tr_T31 := sv_splitR (ts := tr_ts 31 311) rfl (fun t ht => by
  rcases List.mem_cons.mp ht with rfl | ht
  · exact tr_x31
  rcases List.mem_cons.mp ht with rfl | ht
  · exact tr_lo31
  rcases List.mem_cons.mp ht with rfl | ht
  · exact tr_mi31
  rcases List.mem_cons.mp ht with rfl | ht
  · exact tr_hi31
  · cases ht) (fun w0 w hR hfr hG hf => tr_sp 31 311 (by decide) hR hfr hG)
set_option maxRecDepth 1000000 in
theorem tr_x30 : sv_plR hs_Rs sg tr_s 2 (19, 302, 302, 0, [some (.inr (some 106)), some (.inr (some 33)), some (.inl (0, 4294967295, 0, 0, 0)), some (.inl (2147483678, 2147483678, 0, 0, 0))], [], [(1736705, 2147483648, 2147483678, 0, 0)]) := sv_chunkR (S := [sm_196_11501b45]) (cut := [19]) (cs := [(19, 302, 302, 0, [some (.inr (some 106)), some (.inr (some 33)), some (.inl (0, 4294967295, 0, 0, 0)), some (.inl (2147483678, 2147483678, 0, 0, 0))], [], [(1736705, 2147483648, 2147483678, 0, 0)])]) (ext := []) (sp := []) (N := 1000) tr_h (sv_cv sm_196_11501b45_ok sv_nv) (by decide +kernel) sv_npR _ List.mem_cons_self
set_option maxRecDepth 1000000 in
theorem tr_lo30 : sv_plR hs_Rs sg tr_s 2 (19, 303, 303, 0, [some (.inr (some 106)), some (.inr (some 33)), some (.inl (0, 4294967295, 0, 0, 0)), some (.inl (2147483678, 2147483678, 0, 0, 0))], [], [(1736705, 2147483679, 2147483688, 0, 0), (1753118, 0, 2147483663, 0, 0), (1785886, 0, 4294967295, 0, 0)]) := sv_chunkR (S := [sm_196_11501b45, sm_197_7e2dd2ff, sm_195_3969e0f8]) (cut := [19]) (cs := [(19, 303, 303, 0, [some (.inr (some 106)), some (.inr (some 33)), some (.inl (0, 4294967295, 0, 0, 0)), some (.inl (2147483678, 2147483678, 0, 0, 0))], [], [(1736705, 2147483679, 2147483688, 0, 0), (1753118, 0, 2147483663, 0, 0), (1785886, 0, 4294967295, 0, 0)])]) (ext := [tr_T31]) (sp := []) (N := 1000) tr_h (sv_cv sm_196_11501b45_ok (sv_cv sm_197_7e2dd2ff_ok (sv_cv sm_195_3969e0f8_ok sv_nv))) (by decide +kernel) (sv_cpR tr_T31_ok sv_npR) _ List.mem_cons_self
set_option maxRecDepth 1000000 in
theorem tr_mi30 : sv_plR hs_Rs sg tr_s 2 (19, 304, 304, 0, [some (.inr (some 106)), some (.inr (some 33)), some (.inl (0, 4294967295, 0, 0, 0)), some (.inl (2147483678, 2147483678, 0, 0, 0))], [], [(1736705, 2147483679, 2147483688, 0, 0), (1753118, 2147483664, 2147483665, 0, 0), (1785886, 2147483648, 2147483653, 0, 0)]) := sv_chunkR (S := [sm_195_308bd2d0, sm_197_7e2dd2ff]) (cut := [19]) (cs := [(19, 304, 304, 0, [some (.inr (some 106)), some (.inr (some 33)), some (.inl (0, 4294967295, 0, 0, 0)), some (.inl (2147483678, 2147483678, 0, 0, 0))], [], [(1736705, 2147483679, 2147483688, 0, 0), (1753118, 2147483664, 2147483665, 0, 0), (1785886, 2147483648, 2147483653, 0, 0)])]) (ext := [tr_T31]) (sp := []) (N := 1000) tr_h (sv_cv sm_195_308bd2d0_ok (sv_cv sm_197_7e2dd2ff_ok sv_nv)) (by decide +kernel) (sv_cpR tr_T31_ok sv_npR) _ List.mem_cons_self
set_option maxRecDepth 1000000 in
theorem tr_hi30 : sv_plR hs_Rs sg tr_s 2 (19, 305, 305, 0, [some (.inr (some 106)), some (.inr (some 33)), some (.inl (0, 4294967295, 0, 0, 0)), some (.inl (2147483678, 2147483678, 0, 0, 0))], [], [(1736705, 2147483679, 2147483688, 0, 0), (1753118, 2147483666, 4294967295, 0, 0), (1785886, 0, 4294967295, 0, 0)]) := sv_chunkR (S := [sm_195_577e4d0f, sm_197_7e2dd2ff]) (cut := [19]) (cs := [(19, 305, 305, 0, [some (.inr (some 106)), some (.inr (some 33)), some (.inl (0, 4294967295, 0, 0, 0)), some (.inl (2147483678, 2147483678, 0, 0, 0))], [], [(1736705, 2147483679, 2147483688, 0, 0), (1753118, 2147483666, 4294967295, 0, 0), (1785886, 0, 4294967295, 0, 0)])]) (ext := [tr_T31]) (sp := []) (N := 1000) tr_h (sv_cv sm_195_577e4d0f_ok (sv_cv sm_197_7e2dd2ff_ok sv_nv)) (by decide +kernel) (sv_cpR tr_T31_ok sv_npR) _ List.mem_cons_self
def tr_T30 : sv_CS := (19, 301, 301, 0, [some (.inr (some 106)), some (.inr (some 33)), some (.inl (0, 4294967295, 0, 0, 0)), some (.inl (2147483678, 2147483678, 0, 0, 0))], [], [(1736705, 2147483648, 2147483688, 0, 0)])
theorem tr_T30_ok : sv_plR hs_Rs sg tr_s 2 tr_T30 := sv_splitR (ts := tr_ts 30 301) rfl (fun t ht => by
  rcases List.mem_cons.mp ht with rfl | ht
  · exact tr_x30
  rcases List.mem_cons.mp ht with rfl | ht
  · exact tr_lo30
  rcases List.mem_cons.mp ht with rfl | ht
  · exact tr_mi30
  rcases List.mem_cons.mp ht with rfl | ht
  · exact tr_hi30
  · cases ht) (fun w0 w hR hfr hG hf => tr_sp 30 301 (by decide) hR hfr hG)
set_option maxRecDepth 1000000 in
theorem tr_x29 : sv_plR hs_Rs sg tr_s 2 (19, 292, 292, 0, [some (.inr (some 106)), some (.inr (some 33)), some (.inl (0, 4294967295, 0, 0, 0)), some (.inl (2147483677, 2147483677, 0, 0, 0))], [], [(1736705, 2147483648, 2147483677, 0, 0)]) := sv_chunkR (S := [sm_196_11501b45]) (cut := [19]) (cs := [(19, 292, 292, 0, [some (.inr (some 106)), some (.inr (some 33)), some (.inl (0, 4294967295, 0, 0, 0)), some (.inl (2147483677, 2147483677, 0, 0, 0))], [], [(1736705, 2147483648, 2147483677, 0, 0)])]) (ext := []) (sp := []) (N := 1000) tr_h (sv_cv sm_196_11501b45_ok sv_nv) (by decide +kernel) sv_npR _ List.mem_cons_self
set_option maxRecDepth 1000000 in
theorem tr_lo29 : sv_plR hs_Rs sg tr_s 2 (19, 293, 293, 0, [some (.inr (some 106)), some (.inr (some 33)), some (.inl (0, 4294967295, 0, 0, 0)), some (.inl (2147483677, 2147483677, 0, 0, 0))], [], [(1736705, 2147483678, 2147483688, 0, 0), (1753117, 0, 2147483663, 0, 0), (1785885, 0, 4294967295, 0, 0)]) := sv_chunkR (S := [sm_196_11501b45, sm_197_7e2dd2ff, sm_195_5cdc9aec]) (cut := [19]) (cs := [(19, 293, 293, 0, [some (.inr (some 106)), some (.inr (some 33)), some (.inl (0, 4294967295, 0, 0, 0)), some (.inl (2147483677, 2147483677, 0, 0, 0))], [], [(1736705, 2147483678, 2147483688, 0, 0), (1753117, 0, 2147483663, 0, 0), (1785885, 0, 4294967295, 0, 0)])]) (ext := [tr_T30]) (sp := []) (N := 1000) tr_h (sv_cv sm_196_11501b45_ok (sv_cv sm_197_7e2dd2ff_ok (sv_cv sm_195_5cdc9aec_ok sv_nv))) (by decide +kernel) (sv_cpR tr_T30_ok sv_npR) _ List.mem_cons_self
set_option maxRecDepth 1000000 in
theorem tr_mi29 : sv_plR hs_Rs sg tr_s 2 (19, 294, 294, 0, [some (.inr (some 106)), some (.inr (some 33)), some (.inl (0, 4294967295, 0, 0, 0)), some (.inl (2147483677, 2147483677, 0, 0, 0))], [], [(1736705, 2147483678, 2147483688, 0, 0), (1753117, 2147483664, 2147483665, 0, 0), (1785885, 2147483648, 2147483653, 0, 0)]) := sv_chunkR (S := [sm_195_3f265558, sm_197_7e2dd2ff]) (cut := [19]) (cs := [(19, 294, 294, 0, [some (.inr (some 106)), some (.inr (some 33)), some (.inl (0, 4294967295, 0, 0, 0)), some (.inl (2147483677, 2147483677, 0, 0, 0))], [], [(1736705, 2147483678, 2147483688, 0, 0), (1753117, 2147483664, 2147483665, 0, 0), (1785885, 2147483648, 2147483653, 0, 0)])]) (ext := [tr_T30]) (sp := []) (N := 1000) tr_h (sv_cv sm_195_3f265558_ok (sv_cv sm_197_7e2dd2ff_ok sv_nv)) (by decide +kernel) (sv_cpR tr_T30_ok sv_npR) _ List.mem_cons_self
set_option maxRecDepth 1000000 in
theorem tr_hi29 : sv_plR hs_Rs sg tr_s 2 (19, 295, 295, 0, [some (.inr (some 106)), some (.inr (some 33)), some (.inl (0, 4294967295, 0, 0, 0)), some (.inl (2147483677, 2147483677, 0, 0, 0))], [], [(1736705, 2147483678, 2147483688, 0, 0), (1753117, 2147483666, 4294967295, 0, 0), (1785885, 0, 4294967295, 0, 0)]) := sv_chunkR (S := [sm_195_e9091583, sm_197_7e2dd2ff]) (cut := [19]) (cs := [(19, 295, 295, 0, [some (.inr (some 106)), some (.inr (some 33)), some (.inl (0, 4294967295, 0, 0, 0)), some (.inl (2147483677, 2147483677, 0, 0, 0))], [], [(1736705, 2147483678, 2147483688, 0, 0), (1753117, 2147483666, 4294967295, 0, 0), (1785885, 0, 4294967295, 0, 0)])]) (ext := [tr_T30]) (sp := []) (N := 1000) tr_h (sv_cv sm_195_e9091583_ok (sv_cv sm_197_7e2dd2ff_ok sv_nv)) (by decide +kernel) (sv_cpR tr_T30_ok sv_npR) _ List.mem_cons_self
def tr_T29 : sv_CS := (19, 291, 291, 0, [some (.inr (some 106)), some (.inr (some 33)), some (.inl (0, 4294967295, 0, 0, 0)), some (.inl (2147483677, 2147483677, 0, 0, 0))], [], [(1736705, 2147483648, 2147483688, 0, 0)])
theorem tr_T29_ok : sv_plR hs_Rs sg tr_s 2 tr_T29 := sv_splitR (ts := tr_ts 29 291) rfl (fun t ht => by
  rcases List.mem_cons.mp ht with rfl | ht
  · exact tr_x29
  rcases List.mem_cons.mp ht with rfl | ht
  · exact tr_lo29
  rcases List.mem_cons.mp ht with rfl | ht
  · exact tr_mi29
  rcases List.mem_cons.mp ht with rfl | ht
  · exact tr_hi29
  · cases ht) (fun w0 w hR hfr hG hf => tr_sp 29 291 (by decide) hR hfr hG)
set_option maxRecDepth 1000000 in
theorem tr_x28 : sv_plR hs_Rs sg tr_s 2 (19, 282, 282, 0, [some (.inr (some 106)), some (.inr (some 33)), some (.inl (0, 4294967295, 0, 0, 0)), some (.inl (2147483676, 2147483676, 0, 0, 0))], [], [(1736705, 2147483648, 2147483676, 0, 0)]) := sv_chunkR (S := [sm_196_11501b45]) (cut := [19]) (cs := [(19, 282, 282, 0, [some (.inr (some 106)), some (.inr (some 33)), some (.inl (0, 4294967295, 0, 0, 0)), some (.inl (2147483676, 2147483676, 0, 0, 0))], [], [(1736705, 2147483648, 2147483676, 0, 0)])]) (ext := []) (sp := []) (N := 1000) tr_h (sv_cv sm_196_11501b45_ok sv_nv) (by decide +kernel) sv_npR _ List.mem_cons_self
set_option maxRecDepth 1000000 in
theorem tr_lo28 : sv_plR hs_Rs sg tr_s 2 (19, 283, 283, 0, [some (.inr (some 106)), some (.inr (some 33)), some (.inl (0, 4294967295, 0, 0, 0)), some (.inl (2147483676, 2147483676, 0, 0, 0))], [], [(1736705, 2147483677, 2147483688, 0, 0), (1753116, 0, 2147483663, 0, 0), (1785884, 0, 4294967295, 0, 0)]) := sv_chunkR (S := [sm_196_11501b45, sm_197_7e2dd2ff, sm_195_3ae16ee1]) (cut := [19]) (cs := [(19, 283, 283, 0, [some (.inr (some 106)), some (.inr (some 33)), some (.inl (0, 4294967295, 0, 0, 0)), some (.inl (2147483676, 2147483676, 0, 0, 0))], [], [(1736705, 2147483677, 2147483688, 0, 0), (1753116, 0, 2147483663, 0, 0), (1785884, 0, 4294967295, 0, 0)])]) (ext := [tr_T29]) (sp := []) (N := 1000) tr_h (sv_cv sm_196_11501b45_ok (sv_cv sm_197_7e2dd2ff_ok (sv_cv sm_195_3ae16ee1_ok sv_nv))) (by decide +kernel) (sv_cpR tr_T29_ok sv_npR) _ List.mem_cons_self
set_option maxRecDepth 1000000 in
theorem tr_mi28 : sv_plR hs_Rs sg tr_s 2 (19, 284, 284, 0, [some (.inr (some 106)), some (.inr (some 33)), some (.inl (0, 4294967295, 0, 0, 0)), some (.inl (2147483676, 2147483676, 0, 0, 0))], [], [(1736705, 2147483677, 2147483688, 0, 0), (1753116, 2147483664, 2147483665, 0, 0), (1785884, 2147483648, 2147483653, 0, 0)]) := sv_chunkR (S := [sm_195_0612a2c0, sm_197_7e2dd2ff]) (cut := [19]) (cs := [(19, 284, 284, 0, [some (.inr (some 106)), some (.inr (some 33)), some (.inl (0, 4294967295, 0, 0, 0)), some (.inl (2147483676, 2147483676, 0, 0, 0))], [], [(1736705, 2147483677, 2147483688, 0, 0), (1753116, 2147483664, 2147483665, 0, 0), (1785884, 2147483648, 2147483653, 0, 0)])]) (ext := [tr_T29]) (sp := []) (N := 1000) tr_h (sv_cv sm_195_0612a2c0_ok (sv_cv sm_197_7e2dd2ff_ok sv_nv)) (by decide +kernel) (sv_cpR tr_T29_ok sv_npR) _ List.mem_cons_self
set_option maxRecDepth 1000000 in
theorem tr_hi28 : sv_plR hs_Rs sg tr_s 2 (19, 285, 285, 0, [some (.inr (some 106)), some (.inr (some 33)), some (.inl (0, 4294967295, 0, 0, 0)), some (.inl (2147483676, 2147483676, 0, 0, 0))], [], [(1736705, 2147483677, 2147483688, 0, 0), (1753116, 2147483666, 4294967295, 0, 0), (1785884, 0, 4294967295, 0, 0)]) := sv_chunkR (S := [sm_195_f53b2ab3, sm_197_7e2dd2ff]) (cut := [19]) (cs := [(19, 285, 285, 0, [some (.inr (some 106)), some (.inr (some 33)), some (.inl (0, 4294967295, 0, 0, 0)), some (.inl (2147483676, 2147483676, 0, 0, 0))], [], [(1736705, 2147483677, 2147483688, 0, 0), (1753116, 2147483666, 4294967295, 0, 0), (1785884, 0, 4294967295, 0, 0)])]) (ext := [tr_T29]) (sp := []) (N := 1000) tr_h (sv_cv sm_195_f53b2ab3_ok (sv_cv sm_197_7e2dd2ff_ok sv_nv)) (by decide +kernel) (sv_cpR tr_T29_ok sv_npR) _ List.mem_cons_self
def tr_T28 : sv_CS := (19, 281, 281, 0, [some (.inr (some 106)), some (.inr (some 33)), some (.inl (0, 4294967295, 0, 0, 0)), some (.inl (2147483676, 2147483676, 0, 0, 0))], [], [(1736705, 2147483648, 2147483688, 0, 0)])
theorem tr_T28_ok : sv_plR hs_Rs sg tr_s 2 tr_T28 := sv_splitR (ts := tr_ts 28 281) rfl (fun t ht => by
  rcases List.mem_cons.mp ht with rfl | ht
  · exact tr_x28
  rcases List.mem_cons.mp ht with rfl | ht
  · exact tr_lo28
  rcases List.mem_cons.mp ht with rfl | ht
  · exact tr_mi28
  rcases List.mem_cons.mp ht with rfl | ht
  · exact tr_hi28
  · cases ht) (fun w0 w hR hfr hG hf => tr_sp 28 281 (by decide) hR hfr hG)
set_option maxRecDepth 1000000 in
theorem tr_x27 : sv_plR hs_Rs sg tr_s 2 (19, 272, 272, 0, [some (.inr (some 106)), some (.inr (some 33)), some (.inl (0, 4294967295, 0, 0, 0)), some (.inl (2147483675, 2147483675, 0, 0, 0))], [], [(1736705, 2147483648, 2147483675, 0, 0)]) := sv_chunkR (S := [sm_196_11501b45]) (cut := [19]) (cs := [(19, 272, 272, 0, [some (.inr (some 106)), some (.inr (some 33)), some (.inl (0, 4294967295, 0, 0, 0)), some (.inl (2147483675, 2147483675, 0, 0, 0))], [], [(1736705, 2147483648, 2147483675, 0, 0)])]) (ext := []) (sp := []) (N := 1000) tr_h (sv_cv sm_196_11501b45_ok sv_nv) (by decide +kernel) sv_npR _ List.mem_cons_self
set_option maxRecDepth 1000000 in
theorem tr_lo27 : sv_plR hs_Rs sg tr_s 2 (19, 273, 273, 0, [some (.inr (some 106)), some (.inr (some 33)), some (.inl (0, 4294967295, 0, 0, 0)), some (.inl (2147483675, 2147483675, 0, 0, 0))], [], [(1736705, 2147483676, 2147483688, 0, 0), (1753115, 0, 2147483663, 0, 0), (1785883, 0, 4294967295, 0, 0)]) := sv_chunkR (S := [sm_196_11501b45, sm_197_7e2dd2ff, sm_195_96708682]) (cut := [19]) (cs := [(19, 273, 273, 0, [some (.inr (some 106)), some (.inr (some 33)), some (.inl (0, 4294967295, 0, 0, 0)), some (.inl (2147483675, 2147483675, 0, 0, 0))], [], [(1736705, 2147483676, 2147483688, 0, 0), (1753115, 0, 2147483663, 0, 0), (1785883, 0, 4294967295, 0, 0)])]) (ext := [tr_T28]) (sp := []) (N := 1000) tr_h (sv_cv sm_196_11501b45_ok (sv_cv sm_197_7e2dd2ff_ok (sv_cv sm_195_96708682_ok sv_nv))) (by decide +kernel) (sv_cpR tr_T28_ok sv_npR) _ List.mem_cons_self
set_option maxRecDepth 1000000 in
theorem tr_mi27 : sv_plR hs_Rs sg tr_s 2 (19, 274, 274, 0, [some (.inr (some 106)), some (.inr (some 33)), some (.inl (0, 4294967295, 0, 0, 0)), some (.inl (2147483675, 2147483675, 0, 0, 0))], [], [(1736705, 2147483676, 2147483688, 0, 0), (1753115, 2147483664, 2147483665, 0, 0), (1785883, 2147483648, 2147483653, 0, 0)]) := sv_chunkR (S := [sm_195_231cecd7, sm_197_7e2dd2ff]) (cut := [19]) (cs := [(19, 274, 274, 0, [some (.inr (some 106)), some (.inr (some 33)), some (.inl (0, 4294967295, 0, 0, 0)), some (.inl (2147483675, 2147483675, 0, 0, 0))], [], [(1736705, 2147483676, 2147483688, 0, 0), (1753115, 2147483664, 2147483665, 0, 0), (1785883, 2147483648, 2147483653, 0, 0)])]) (ext := [tr_T28]) (sp := []) (N := 1000) tr_h (sv_cv sm_195_231cecd7_ok (sv_cv sm_197_7e2dd2ff_ok sv_nv)) (by decide +kernel) (sv_cpR tr_T28_ok sv_npR) _ List.mem_cons_self
set_option maxRecDepth 1000000 in
theorem tr_hi27 : sv_plR hs_Rs sg tr_s 2 (19, 275, 275, 0, [some (.inr (some 106)), some (.inr (some 33)), some (.inl (0, 4294967295, 0, 0, 0)), some (.inl (2147483675, 2147483675, 0, 0, 0))], [], [(1736705, 2147483676, 2147483688, 0, 0), (1753115, 2147483666, 4294967295, 0, 0), (1785883, 0, 4294967295, 0, 0)]) := sv_chunkR (S := [sm_195_d7ba9f97, sm_197_7e2dd2ff]) (cut := [19]) (cs := [(19, 275, 275, 0, [some (.inr (some 106)), some (.inr (some 33)), some (.inl (0, 4294967295, 0, 0, 0)), some (.inl (2147483675, 2147483675, 0, 0, 0))], [], [(1736705, 2147483676, 2147483688, 0, 0), (1753115, 2147483666, 4294967295, 0, 0), (1785883, 0, 4294967295, 0, 0)])]) (ext := [tr_T28]) (sp := []) (N := 1000) tr_h (sv_cv sm_195_d7ba9f97_ok (sv_cv sm_197_7e2dd2ff_ok sv_nv)) (by decide +kernel) (sv_cpR tr_T28_ok sv_npR) _ List.mem_cons_self
def tr_T27 : sv_CS := (19, 271, 271, 0, [some (.inr (some 106)), some (.inr (some 33)), some (.inl (0, 4294967295, 0, 0, 0)), some (.inl (2147483675, 2147483675, 0, 0, 0))], [], [(1736705, 2147483648, 2147483688, 0, 0)])
theorem tr_T27_ok : sv_plR hs_Rs sg tr_s 2 tr_T27 := sv_splitR (ts := tr_ts 27 271) rfl (fun t ht => by
  rcases List.mem_cons.mp ht with rfl | ht
  · exact tr_x27
  rcases List.mem_cons.mp ht with rfl | ht
  · exact tr_lo27
  rcases List.mem_cons.mp ht with rfl | ht
  · exact tr_mi27
  rcases List.mem_cons.mp ht with rfl | ht
  · exact tr_hi27
  · cases ht) (fun w0 w hR hfr hG hf => tr_sp 27 271 (by decide) hR hfr hG)
set_option maxRecDepth 1000000 in
theorem tr_x26 : sv_plR hs_Rs sg tr_s 2 (19, 262, 262, 0, [some (.inr (some 106)), some (.inr (some 33)), some (.inl (0, 4294967295, 0, 0, 0)), some (.inl (2147483674, 2147483674, 0, 0, 0))], [], [(1736705, 2147483648, 2147483674, 0, 0)]) := sv_chunkR (S := [sm_196_11501b45]) (cut := [19]) (cs := [(19, 262, 262, 0, [some (.inr (some 106)), some (.inr (some 33)), some (.inl (0, 4294967295, 0, 0, 0)), some (.inl (2147483674, 2147483674, 0, 0, 0))], [], [(1736705, 2147483648, 2147483674, 0, 0)])]) (ext := []) (sp := []) (N := 1000) tr_h (sv_cv sm_196_11501b45_ok sv_nv) (by decide +kernel) sv_npR _ List.mem_cons_self
set_option maxRecDepth 1000000 in
theorem tr_lo26 : sv_plR hs_Rs sg tr_s 2 (19, 263, 263, 0, [some (.inr (some 106)), some (.inr (some 33)), some (.inl (0, 4294967295, 0, 0, 0)), some (.inl (2147483674, 2147483674, 0, 0, 0))], [], [(1736705, 2147483675, 2147483688, 0, 0), (1753114, 0, 2147483663, 0, 0), (1785882, 0, 4294967295, 0, 0)]) := sv_chunkR (S := [sm_196_11501b45, sm_197_7e2dd2ff, sm_195_f04d728f]) (cut := [19]) (cs := [(19, 263, 263, 0, [some (.inr (some 106)), some (.inr (some 33)), some (.inl (0, 4294967295, 0, 0, 0)), some (.inl (2147483674, 2147483674, 0, 0, 0))], [], [(1736705, 2147483675, 2147483688, 0, 0), (1753114, 0, 2147483663, 0, 0), (1785882, 0, 4294967295, 0, 0)])]) (ext := [tr_T27]) (sp := []) (N := 1000) tr_h (sv_cv sm_196_11501b45_ok (sv_cv sm_197_7e2dd2ff_ok (sv_cv sm_195_f04d728f_ok sv_nv))) (by decide +kernel) (sv_cpR tr_T27_ok sv_npR) _ List.mem_cons_self
set_option maxRecDepth 1000000 in
theorem tr_mi26 : sv_plR hs_Rs sg tr_s 2 (19, 264, 264, 0, [some (.inr (some 106)), some (.inr (some 33)), some (.inl (0, 4294967295, 0, 0, 0)), some (.inl (2147483674, 2147483674, 0, 0, 0))], [], [(1736705, 2147483675, 2147483688, 0, 0), (1753114, 2147483664, 2147483665, 0, 0), (1785882, 2147483648, 2147483653, 0, 0)]) := sv_chunkR (S := [sm_195_1a281b4f, sm_197_7e2dd2ff]) (cut := [19]) (cs := [(19, 264, 264, 0, [some (.inr (some 106)), some (.inr (some 33)), some (.inl (0, 4294967295, 0, 0, 0)), some (.inl (2147483674, 2147483674, 0, 0, 0))], [], [(1736705, 2147483675, 2147483688, 0, 0), (1753114, 2147483664, 2147483665, 0, 0), (1785882, 2147483648, 2147483653, 0, 0)])]) (ext := [tr_T27]) (sp := []) (N := 1000) tr_h (sv_cv sm_195_1a281b4f_ok (sv_cv sm_197_7e2dd2ff_ok sv_nv)) (by decide +kernel) (sv_cpR tr_T27_ok sv_npR) _ List.mem_cons_self
set_option maxRecDepth 1000000 in
theorem tr_hi26 : sv_plR hs_Rs sg tr_s 2 (19, 265, 265, 0, [some (.inr (some 106)), some (.inr (some 33)), some (.inl (0, 4294967295, 0, 0, 0)), some (.inl (2147483674, 2147483674, 0, 0, 0))], [], [(1736705, 2147483675, 2147483688, 0, 0), (1753114, 2147483666, 4294967295, 0, 0), (1785882, 0, 4294967295, 0, 0)]) := sv_chunkR (S := [sm_195_cb88a0a7, sm_197_7e2dd2ff]) (cut := [19]) (cs := [(19, 265, 265, 0, [some (.inr (some 106)), some (.inr (some 33)), some (.inl (0, 4294967295, 0, 0, 0)), some (.inl (2147483674, 2147483674, 0, 0, 0))], [], [(1736705, 2147483675, 2147483688, 0, 0), (1753114, 2147483666, 4294967295, 0, 0), (1785882, 0, 4294967295, 0, 0)])]) (ext := [tr_T27]) (sp := []) (N := 1000) tr_h (sv_cv sm_195_cb88a0a7_ok (sv_cv sm_197_7e2dd2ff_ok sv_nv)) (by decide +kernel) (sv_cpR tr_T27_ok sv_npR) _ List.mem_cons_self
def tr_T26 : sv_CS := (19, 261, 261, 0, [some (.inr (some 106)), some (.inr (some 33)), some (.inl (0, 4294967295, 0, 0, 0)), some (.inl (2147483674, 2147483674, 0, 0, 0))], [], [(1736705, 2147483648, 2147483688, 0, 0)])
theorem tr_T26_ok : sv_plR hs_Rs sg tr_s 2 tr_T26 := sv_splitR (ts := tr_ts 26 261) rfl (fun t ht => by
  rcases List.mem_cons.mp ht with rfl | ht
  · exact tr_x26
  rcases List.mem_cons.mp ht with rfl | ht
  · exact tr_lo26
  rcases List.mem_cons.mp ht with rfl | ht
  · exact tr_mi26
  rcases List.mem_cons.mp ht with rfl | ht
  · exact tr_hi26
  · cases ht) (fun w0 w hR hfr hG hf => tr_sp 26 261 (by decide) hR hfr hG)
set_option maxRecDepth 1000000 in
theorem tr_x25 : sv_plR hs_Rs sg tr_s 2 (19, 252, 252, 0, [some (.inr (some 106)), some (.inr (some 33)), some (.inl (0, 4294967295, 0, 0, 0)), some (.inl (2147483673, 2147483673, 0, 0, 0))], [], [(1736705, 2147483648, 2147483673, 0, 0)]) := sv_chunkR (S := [sm_196_11501b45]) (cut := [19]) (cs := [(19, 252, 252, 0, [some (.inr (some 106)), some (.inr (some 33)), some (.inl (0, 4294967295, 0, 0, 0)), some (.inl (2147483673, 2147483673, 0, 0, 0))], [], [(1736705, 2147483648, 2147483673, 0, 0)])]) (ext := []) (sp := []) (N := 1000) tr_h (sv_cv sm_196_11501b45_ok sv_nv) (by decide +kernel) sv_npR _ List.mem_cons_self
set_option maxRecDepth 1000000 in
theorem tr_lo25 : sv_plR hs_Rs sg tr_s 2 (19, 253, 253, 0, [some (.inr (some 106)), some (.inr (some 33)), some (.inl (0, 4294967295, 0, 0, 0)), some (.inl (2147483673, 2147483673, 0, 0, 0))], [], [(1736705, 2147483674, 2147483688, 0, 0), (1753113, 0, 2147483663, 0, 0), (1785881, 0, 4294967295, 0, 0)]) := sv_chunkR (S := [sm_196_11501b45, sm_197_7e2dd2ff, sm_195_1f5a4c99]) (cut := [19]) (cs := [(19, 253, 253, 0, [some (.inr (some 106)), some (.inr (some 33)), some (.inl (0, 4294967295, 0, 0, 0)), some (.inl (2147483673, 2147483673, 0, 0, 0))], [], [(1736705, 2147483674, 2147483688, 0, 0), (1753113, 0, 2147483663, 0, 0), (1785881, 0, 4294967295, 0, 0)])]) (ext := [tr_T26]) (sp := []) (N := 1000) tr_h (sv_cv sm_196_11501b45_ok (sv_cv sm_197_7e2dd2ff_ok (sv_cv sm_195_1f5a4c99_ok sv_nv))) (by decide +kernel) (sv_cpR tr_T26_ok sv_npR) _ List.mem_cons_self
set_option maxRecDepth 1000000 in
theorem tr_mi25 : sv_plR hs_Rs sg tr_s 2 (19, 254, 254, 0, [some (.inr (some 106)), some (.inr (some 33)), some (.inl (0, 4294967295, 0, 0, 0)), some (.inl (2147483673, 2147483673, 0, 0, 0))], [], [(1736705, 2147483674, 2147483688, 0, 0), (1753113, 2147483664, 2147483665, 0, 0), (1785881, 2147483648, 2147483653, 0, 0)]) := sv_chunkR (S := [sm_195_dbf58b38, sm_197_7e2dd2ff]) (cut := [19]) (cs := [(19, 254, 254, 0, [some (.inr (some 106)), some (.inr (some 33)), some (.inl (0, 4294967295, 0, 0, 0)), some (.inl (2147483673, 2147483673, 0, 0, 0))], [], [(1736705, 2147483674, 2147483688, 0, 0), (1753113, 2147483664, 2147483665, 0, 0), (1785881, 2147483648, 2147483653, 0, 0)])]) (ext := [tr_T26]) (sp := []) (N := 1000) tr_h (sv_cv sm_195_dbf58b38_ok (sv_cv sm_197_7e2dd2ff_ok sv_nv)) (by decide +kernel) (sv_cpR tr_T26_ok sv_npR) _ List.mem_cons_self
set_option maxRecDepth 1000000 in
theorem tr_hi25 : sv_plR hs_Rs sg tr_s 2 (19, 255, 255, 0, [some (.inr (some 106)), some (.inr (some 33)), some (.inl (0, 4294967295, 0, 0, 0)), some (.inl (2147483673, 2147483673, 0, 0, 0))], [], [(1736705, 2147483674, 2147483688, 0, 0), (1753113, 2147483666, 4294967295, 0, 0), (1785881, 0, 4294967295, 0, 0)]) := sv_chunkR (S := [sm_195_99c1e943, sm_197_7e2dd2ff]) (cut := [19]) (cs := [(19, 255, 255, 0, [some (.inr (some 106)), some (.inr (some 33)), some (.inl (0, 4294967295, 0, 0, 0)), some (.inl (2147483673, 2147483673, 0, 0, 0))], [], [(1736705, 2147483674, 2147483688, 0, 0), (1753113, 2147483666, 4294967295, 0, 0), (1785881, 0, 4294967295, 0, 0)])]) (ext := [tr_T26]) (sp := []) (N := 1000) tr_h (sv_cv sm_195_99c1e943_ok (sv_cv sm_197_7e2dd2ff_ok sv_nv)) (by decide +kernel) (sv_cpR tr_T26_ok sv_npR) _ List.mem_cons_self
def tr_T25 : sv_CS := (19, 251, 251, 0, [some (.inr (some 106)), some (.inr (some 33)), some (.inl (0, 4294967295, 0, 0, 0)), some (.inl (2147483673, 2147483673, 0, 0, 0))], [], [(1736705, 2147483648, 2147483688, 0, 0)])
theorem tr_T25_ok : sv_plR hs_Rs sg tr_s 2 tr_T25 := sv_splitR (ts := tr_ts 25 251) rfl (fun t ht => by
  rcases List.mem_cons.mp ht with rfl | ht
  · exact tr_x25
  rcases List.mem_cons.mp ht with rfl | ht
  · exact tr_lo25
  rcases List.mem_cons.mp ht with rfl | ht
  · exact tr_mi25
  rcases List.mem_cons.mp ht with rfl | ht
  · exact tr_hi25
  · cases ht) (fun w0 w hR hfr hG hf => tr_sp 25 251 (by decide) hR hfr hG)
set_option maxRecDepth 1000000 in
theorem tr_x24 : sv_plR hs_Rs sg tr_s 2 (19, 242, 242, 0, [some (.inr (some 106)), some (.inr (some 33)), some (.inl (0, 4294967295, 0, 0, 0)), some (.inl (2147483672, 2147483672, 0, 0, 0))], [], [(1736705, 2147483648, 2147483672, 0, 0)]) := sv_chunkR (S := [sm_196_11501b45]) (cut := [19]) (cs := [(19, 242, 242, 0, [some (.inr (some 106)), some (.inr (some 33)), some (.inl (0, 4294967295, 0, 0, 0)), some (.inl (2147483672, 2147483672, 0, 0, 0))], [], [(1736705, 2147483648, 2147483672, 0, 0)])]) (ext := []) (sp := []) (N := 1000) tr_h (sv_cv sm_196_11501b45_ok sv_nv) (by decide +kernel) sv_npR _ List.mem_cons_self
set_option maxRecDepth 1000000 in
theorem tr_lo24 : sv_plR hs_Rs sg tr_s 2 (19, 243, 243, 0, [some (.inr (some 106)), some (.inr (some 33)), some (.inl (0, 4294967295, 0, 0, 0)), some (.inl (2147483672, 2147483672, 0, 0, 0))], [], [(1736705, 2147483673, 2147483688, 0, 0), (1753112, 0, 2147483663, 0, 0), (1785880, 0, 4294967295, 0, 0)]) := sv_chunkR (S := [sm_196_11501b45, sm_197_7e2dd2ff, sm_195_7967b894]) (cut := [19]) (cs := [(19, 243, 243, 0, [some (.inr (some 106)), some (.inr (some 33)), some (.inl (0, 4294967295, 0, 0, 0)), some (.inl (2147483672, 2147483672, 0, 0, 0))], [], [(1736705, 2147483673, 2147483688, 0, 0), (1753112, 0, 2147483663, 0, 0), (1785880, 0, 4294967295, 0, 0)])]) (ext := [tr_T25]) (sp := []) (N := 1000) tr_h (sv_cv sm_196_11501b45_ok (sv_cv sm_197_7e2dd2ff_ok (sv_cv sm_195_7967b894_ok sv_nv))) (by decide +kernel) (sv_cpR tr_T25_ok sv_npR) _ List.mem_cons_self
set_option maxRecDepth 1000000 in
theorem tr_mi24 : sv_plR hs_Rs sg tr_s 2 (19, 244, 244, 0, [some (.inr (some 106)), some (.inr (some 33)), some (.inl (0, 4294967295, 0, 0, 0)), some (.inl (2147483672, 2147483672, 0, 0, 0))], [], [(1736705, 2147483673, 2147483688, 0, 0), (1753112, 2147483664, 2147483665, 0, 0), (1785880, 2147483648, 2147483653, 0, 0)]) := sv_chunkR (S := [sm_195_e2c17ca0, sm_197_7e2dd2ff]) (cut := [19]) (cs := [(19, 244, 244, 0, [some (.inr (some 106)), some (.inr (some 33)), some (.inl (0, 4294967295, 0, 0, 0)), some (.inl (2147483672, 2147483672, 0, 0, 0))], [], [(1736705, 2147483673, 2147483688, 0, 0), (1753112, 2147483664, 2147483665, 0, 0), (1785880, 2147483648, 2147483653, 0, 0)])]) (ext := [tr_T25]) (sp := []) (N := 1000) tr_h (sv_cv sm_195_e2c17ca0_ok (sv_cv sm_197_7e2dd2ff_ok sv_nv)) (by decide +kernel) (sv_cpR tr_T25_ok sv_npR) _ List.mem_cons_self
set_option maxRecDepth 1000000 in
theorem tr_hi24 : sv_plR hs_Rs sg tr_s 2 (19, 245, 245, 0, [some (.inr (some 106)), some (.inr (some 33)), some (.inl (0, 4294967295, 0, 0, 0)), some (.inl (2147483672, 2147483672, 0, 0, 0))], [], [(1736705, 2147483673, 2147483688, 0, 0), (1753112, 2147483666, 4294967295, 0, 0), (1785880, 0, 4294967295, 0, 0)]) := sv_chunkR (S := [sm_195_85f3d673, sm_197_7e2dd2ff]) (cut := [19]) (cs := [(19, 245, 245, 0, [some (.inr (some 106)), some (.inr (some 33)), some (.inl (0, 4294967295, 0, 0, 0)), some (.inl (2147483672, 2147483672, 0, 0, 0))], [], [(1736705, 2147483673, 2147483688, 0, 0), (1753112, 2147483666, 4294967295, 0, 0), (1785880, 0, 4294967295, 0, 0)])]) (ext := [tr_T25]) (sp := []) (N := 1000) tr_h (sv_cv sm_195_85f3d673_ok (sv_cv sm_197_7e2dd2ff_ok sv_nv)) (by decide +kernel) (sv_cpR tr_T25_ok sv_npR) _ List.mem_cons_self
def tr_T24 : sv_CS := (19, 241, 241, 0, [some (.inr (some 106)), some (.inr (some 33)), some (.inl (0, 4294967295, 0, 0, 0)), some (.inl (2147483672, 2147483672, 0, 0, 0))], [], [(1736705, 2147483648, 2147483688, 0, 0)])
theorem tr_T24_ok : sv_plR hs_Rs sg tr_s 2 tr_T24 := sv_splitR (ts := tr_ts 24 241) rfl (fun t ht => by
  rcases List.mem_cons.mp ht with rfl | ht
  · exact tr_x24
  rcases List.mem_cons.mp ht with rfl | ht
  · exact tr_lo24
  rcases List.mem_cons.mp ht with rfl | ht
  · exact tr_mi24
  rcases List.mem_cons.mp ht with rfl | ht
  · exact tr_hi24
  · cases ht) (fun w0 w hR hfr hG hf => tr_sp 24 241 (by decide) hR hfr hG)
set_option maxRecDepth 1000000 in
theorem tr_x23 : sv_plR hs_Rs sg tr_s 2 (19, 232, 232, 0, [some (.inr (some 106)), some (.inr (some 33)), some (.inl (0, 4294967295, 0, 0, 0)), some (.inl (2147483671, 2147483671, 0, 0, 0))], [], [(1736705, 2147483648, 2147483671, 0, 0)]) := sv_chunkR (S := [sm_196_11501b45]) (cut := [19]) (cs := [(19, 232, 232, 0, [some (.inr (some 106)), some (.inr (some 33)), some (.inl (0, 4294967295, 0, 0, 0)), some (.inl (2147483671, 2147483671, 0, 0, 0))], [], [(1736705, 2147483648, 2147483671, 0, 0)])]) (ext := []) (sp := []) (N := 1000) tr_h (sv_cv sm_196_11501b45_ok sv_nv) (by decide +kernel) sv_npR _ List.mem_cons_self
set_option maxRecDepth 1000000 in
theorem tr_lo23 : sv_plR hs_Rs sg tr_s 2 (19, 233, 233, 0, [some (.inr (some 106)), some (.inr (some 33)), some (.inl (0, 4294967295, 0, 0, 0)), some (.inl (2147483671, 2147483671, 0, 0, 0))], [], [(1736705, 2147483672, 2147483688, 0, 0), (1753111, 0, 2147483663, 0, 0), (1785879, 0, 4294967295, 0, 0)]) := sv_chunkR (S := [sm_196_11501b45, sm_197_7e2dd2ff, sm_195_815f7a4e]) (cut := [19]) (cs := [(19, 233, 233, 0, [some (.inr (some 106)), some (.inr (some 33)), some (.inl (0, 4294967295, 0, 0, 0)), some (.inl (2147483671, 2147483671, 0, 0, 0))], [], [(1736705, 2147483672, 2147483688, 0, 0), (1753111, 0, 2147483663, 0, 0), (1785879, 0, 4294967295, 0, 0)])]) (ext := [tr_T24]) (sp := []) (N := 1000) tr_h (sv_cv sm_196_11501b45_ok (sv_cv sm_197_7e2dd2ff_ok (sv_cv sm_195_815f7a4e_ok sv_nv))) (by decide +kernel) (sv_cpR tr_T24_ok sv_npR) _ List.mem_cons_self
set_option maxRecDepth 1000000 in
theorem tr_mi23 : sv_plR hs_Rs sg tr_s 2 (19, 234, 234, 0, [some (.inr (some 106)), some (.inr (some 33)), some (.inl (0, 4294967295, 0, 0, 0)), some (.inl (2147483671, 2147483671, 0, 0, 0))], [], [(1736705, 2147483672, 2147483688, 0, 0), (1753111, 2147483664, 2147483665, 0, 0), (1785879, 2147483648, 2147483653, 0, 0)]) := sv_chunkR (S := [sm_195_0e92e6b3, sm_197_7e2dd2ff]) (cut := [19]) (cs := [(19, 234, 234, 0, [some (.inr (some 106)), some (.inr (some 33)), some (.inl (0, 4294967295, 0, 0, 0)), some (.inl (2147483671, 2147483671, 0, 0, 0))], [], [(1736705, 2147483672, 2147483688, 0, 0), (1753111, 2147483664, 2147483665, 0, 0), (1785879, 2147483648, 2147483653, 0, 0)])]) (ext := [tr_T24]) (sp := []) (N := 1000) tr_h (sv_cv sm_195_0e92e6b3_ok (sv_cv sm_197_7e2dd2ff_ok sv_nv)) (by decide +kernel) (sv_cpR tr_T24_ok sv_npR) _ List.mem_cons_self
set_option maxRecDepth 1000000 in
theorem tr_hi23 : sv_plR hs_Rs sg tr_s 2 (19, 235, 235, 0, [some (.inr (some 106)), some (.inr (some 33)), some (.inl (0, 4294967295, 0, 0, 0)), some (.inl (2147483671, 2147483671, 0, 0, 0))], [], [(1736705, 2147483672, 2147483688, 0, 0), (1753111, 2147483666, 4294967295, 0, 0), (1785879, 0, 4294967295, 0, 0)]) := sv_chunkR (S := [sm_195_f3db49ee, sm_197_7e2dd2ff]) (cut := [19]) (cs := [(19, 235, 235, 0, [some (.inr (some 106)), some (.inr (some 33)), some (.inl (0, 4294967295, 0, 0, 0)), some (.inl (2147483671, 2147483671, 0, 0, 0))], [], [(1736705, 2147483672, 2147483688, 0, 0), (1753111, 2147483666, 4294967295, 0, 0), (1785879, 0, 4294967295, 0, 0)])]) (ext := [tr_T24]) (sp := []) (N := 1000) tr_h (sv_cv sm_195_f3db49ee_ok (sv_cv sm_197_7e2dd2ff_ok sv_nv)) (by decide +kernel) (sv_cpR tr_T24_ok sv_npR) _ List.mem_cons_self
def tr_T23 : sv_CS := (19, 231, 231, 0, [some (.inr (some 106)), some (.inr (some 33)), some (.inl (0, 4294967295, 0, 0, 0)), some (.inl (2147483671, 2147483671, 0, 0, 0))], [], [(1736705, 2147483648, 2147483688, 0, 0)])
theorem tr_T23_ok : sv_plR hs_Rs sg tr_s 2 tr_T23 := sv_splitR (ts := tr_ts 23 231) rfl (fun t ht => by
  rcases List.mem_cons.mp ht with rfl | ht
  · exact tr_x23
  rcases List.mem_cons.mp ht with rfl | ht
  · exact tr_lo23
  rcases List.mem_cons.mp ht with rfl | ht
  · exact tr_mi23
  rcases List.mem_cons.mp ht with rfl | ht
  · exact tr_hi23
  · cases ht) (fun w0 w hR hfr hG hf => tr_sp 23 231 (by decide) hR hfr hG)
set_option maxRecDepth 1000000 in
theorem tr_x22 : sv_plR hs_Rs sg tr_s 2 (19, 222, 222, 0, [some (.inr (some 106)), some (.inr (some 33)), some (.inl (0, 4294967295, 0, 0, 0)), some (.inl (2147483670, 2147483670, 0, 0, 0))], [], [(1736705, 2147483648, 2147483670, 0, 0)]) := sv_chunkR (S := [sm_196_11501b45]) (cut := [19]) (cs := [(19, 222, 222, 0, [some (.inr (some 106)), some (.inr (some 33)), some (.inl (0, 4294967295, 0, 0, 0)), some (.inl (2147483670, 2147483670, 0, 0, 0))], [], [(1736705, 2147483648, 2147483670, 0, 0)])]) (ext := []) (sp := []) (N := 1000) tr_h (sv_cv sm_196_11501b45_ok sv_nv) (by decide +kernel) sv_npR _ List.mem_cons_self
set_option maxRecDepth 1000000 in
theorem tr_lo22 : sv_plR hs_Rs sg tr_s 2 (19, 223, 223, 0, [some (.inr (some 106)), some (.inr (some 33)), some (.inl (0, 4294967295, 0, 0, 0)), some (.inl (2147483670, 2147483670, 0, 0, 0))], [], [(1736705, 2147483671, 2147483688, 0, 0), (1753110, 0, 2147483663, 0, 0), (1785878, 0, 4294967295, 0, 0)]) := sv_chunkR (S := [sm_196_11501b45, sm_197_7e2dd2ff, sm_195_e7628e43]) (cut := [19]) (cs := [(19, 223, 223, 0, [some (.inr (some 106)), some (.inr (some 33)), some (.inl (0, 4294967295, 0, 0, 0)), some (.inl (2147483670, 2147483670, 0, 0, 0))], [], [(1736705, 2147483671, 2147483688, 0, 0), (1753110, 0, 2147483663, 0, 0), (1785878, 0, 4294967295, 0, 0)])]) (ext := [tr_T23]) (sp := []) (N := 1000) tr_h (sv_cv sm_196_11501b45_ok (sv_cv sm_197_7e2dd2ff_ok (sv_cv sm_195_e7628e43_ok sv_nv))) (by decide +kernel) (sv_cpR tr_T23_ok sv_npR) _ List.mem_cons_self
set_option maxRecDepth 1000000 in
theorem tr_mi22 : sv_plR hs_Rs sg tr_s 2 (19, 224, 224, 0, [some (.inr (some 106)), some (.inr (some 33)), some (.inl (0, 4294967295, 0, 0, 0)), some (.inl (2147483670, 2147483670, 0, 0, 0))], [], [(1736705, 2147483671, 2147483688, 0, 0), (1753110, 2147483664, 2147483665, 0, 0), (1785878, 2147483648, 2147483653, 0, 0)]) := sv_chunkR (S := [sm_195_37a6112b, sm_197_7e2dd2ff]) (cut := [19]) (cs := [(19, 224, 224, 0, [some (.inr (some 106)), some (.inr (some 33)), some (.inl (0, 4294967295, 0, 0, 0)), some (.inl (2147483670, 2147483670, 0, 0, 0))], [], [(1736705, 2147483671, 2147483688, 0, 0), (1753110, 2147483664, 2147483665, 0, 0), (1785878, 2147483648, 2147483653, 0, 0)])]) (ext := [tr_T23]) (sp := []) (N := 1000) tr_h (sv_cv sm_195_37a6112b_ok (sv_cv sm_197_7e2dd2ff_ok sv_nv)) (by decide +kernel) (sv_cpR tr_T23_ok sv_npR) _ List.mem_cons_self
set_option maxRecDepth 1000000 in
theorem tr_hi22 : sv_plR hs_Rs sg tr_s 2 (19, 225, 225, 0, [some (.inr (some 106)), some (.inr (some 33)), some (.inl (0, 4294967295, 0, 0, 0)), some (.inl (2147483670, 2147483670, 0, 0, 0))], [], [(1736705, 2147483671, 2147483688, 0, 0), (1753110, 2147483666, 4294967295, 0, 0), (1785878, 0, 4294967295, 0, 0)]) := sv_chunkR (S := [sm_195_efe976de, sm_197_7e2dd2ff]) (cut := [19]) (cs := [(19, 225, 225, 0, [some (.inr (some 106)), some (.inr (some 33)), some (.inl (0, 4294967295, 0, 0, 0)), some (.inl (2147483670, 2147483670, 0, 0, 0))], [], [(1736705, 2147483671, 2147483688, 0, 0), (1753110, 2147483666, 4294967295, 0, 0), (1785878, 0, 4294967295, 0, 0)])]) (ext := [tr_T23]) (sp := []) (N := 1000) tr_h (sv_cv sm_195_efe976de_ok (sv_cv sm_197_7e2dd2ff_ok sv_nv)) (by decide +kernel) (sv_cpR tr_T23_ok sv_npR) _ List.mem_cons_self
def tr_T22 : sv_CS := (19, 221, 221, 0, [some (.inr (some 106)), some (.inr (some 33)), some (.inl (0, 4294967295, 0, 0, 0)), some (.inl (2147483670, 2147483670, 0, 0, 0))], [], [(1736705, 2147483648, 2147483688, 0, 0)])
theorem tr_T22_ok : sv_plR hs_Rs sg tr_s 2 tr_T22 := sv_splitR (ts := tr_ts 22 221) rfl (fun t ht => by
  rcases List.mem_cons.mp ht with rfl | ht
  · exact tr_x22
  rcases List.mem_cons.mp ht with rfl | ht
  · exact tr_lo22
  rcases List.mem_cons.mp ht with rfl | ht
  · exact tr_mi22
  rcases List.mem_cons.mp ht with rfl | ht
  · exact tr_hi22
  · cases ht) (fun w0 w hR hfr hG hf => tr_sp 22 221 (by decide) hR hfr hG)
set_option maxRecDepth 1000000 in
theorem tr_x21 : sv_plR hs_Rs sg tr_s 2 (19, 212, 212, 0, [some (.inr (some 106)), some (.inr (some 33)), some (.inl (0, 4294967295, 0, 0, 0)), some (.inl (2147483669, 2147483669, 0, 0, 0))], [], [(1736705, 2147483648, 2147483669, 0, 0)]) := sv_chunkR (S := [sm_196_11501b45]) (cut := [19]) (cs := [(19, 212, 212, 0, [some (.inr (some 106)), some (.inr (some 33)), some (.inl (0, 4294967295, 0, 0, 0)), some (.inl (2147483669, 2147483669, 0, 0, 0))], [], [(1736705, 2147483648, 2147483669, 0, 0)])]) (ext := []) (sp := []) (N := 1000) tr_h (sv_cv sm_196_11501b45_ok sv_nv) (by decide +kernel) sv_npR _ List.mem_cons_self
set_option maxRecDepth 1000000 in
theorem tr_lo21 : sv_plR hs_Rs sg tr_s 2 (19, 213, 213, 0, [some (.inr (some 106)), some (.inr (some 33)), some (.inl (0, 4294967295, 0, 0, 0)), some (.inl (2147483669, 2147483669, 0, 0, 0))], [], [(1736705, 2147483670, 2147483688, 0, 0), (1753109, 0, 2147483663, 0, 0), (1785877, 0, 4294967295, 0, 0)]) := sv_chunkR (S := [sm_196_11501b45, sm_197_7e2dd2ff, sm_195_1e3e4087]) (cut := [19]) (cs := [(19, 213, 213, 0, [some (.inr (some 106)), some (.inr (some 33)), some (.inl (0, 4294967295, 0, 0, 0)), some (.inl (2147483669, 2147483669, 0, 0, 0))], [], [(1736705, 2147483670, 2147483688, 0, 0), (1753109, 0, 2147483663, 0, 0), (1785877, 0, 4294967295, 0, 0)])]) (ext := [tr_T22]) (sp := []) (N := 1000) tr_h (sv_cv sm_196_11501b45_ok (sv_cv sm_197_7e2dd2ff_ok (sv_cv sm_195_1e3e4087_ok sv_nv))) (by decide +kernel) (sv_cpR tr_T22_ok sv_npR) _ List.mem_cons_self
set_option maxRecDepth 1000000 in
theorem tr_mi21 : sv_plR hs_Rs sg tr_s 2 (19, 214, 214, 0, [some (.inr (some 106)), some (.inr (some 33)), some (.inl (0, 4294967295, 0, 0, 0)), some (.inl (2147483669, 2147483669, 0, 0, 0))], [], [(1736705, 2147483670, 2147483688, 0, 0), (1753109, 2147483664, 2147483665, 0, 0), (1785877, 2147483648, 2147483653, 0, 0)]) := sv_chunkR (S := [sm_195_dbe3f091, sm_197_7e2dd2ff]) (cut := [19]) (cs := [(19, 214, 214, 0, [some (.inr (some 106)), some (.inr (some 33)), some (.inl (0, 4294967295, 0, 0, 0)), some (.inl (2147483669, 2147483669, 0, 0, 0))], [], [(1736705, 2147483670, 2147483688, 0, 0), (1753109, 2147483664, 2147483665, 0, 0), (1785877, 2147483648, 2147483653, 0, 0)])]) (ext := [tr_T22]) (sp := []) (N := 1000) tr_h (sv_cv sm_195_dbe3f091_ok (sv_cv sm_197_7e2dd2ff_ok sv_nv)) (by decide +kernel) (sv_cpR tr_T22_ok sv_npR) _ List.mem_cons_self
set_option maxRecDepth 1000000 in
theorem tr_hi21 : sv_plR hs_Rs sg tr_s 2 (19, 215, 215, 0, [some (.inr (some 106)), some (.inr (some 33)), some (.inl (0, 4294967295, 0, 0, 0)), some (.inl (2147483669, 2147483669, 0, 0, 0))], [], [(1736705, 2147483670, 2147483688, 0, 0), (1753109, 2147483666, 4294967295, 0, 0), (1785877, 0, 4294967295, 0, 0)]) := sv_chunkR (S := [sm_195_52346597, sm_197_7e2dd2ff]) (cut := [19]) (cs := [(19, 215, 215, 0, [some (.inr (some 106)), some (.inr (some 33)), some (.inl (0, 4294967295, 0, 0, 0)), some (.inl (2147483669, 2147483669, 0, 0, 0))], [], [(1736705, 2147483670, 2147483688, 0, 0), (1753109, 2147483666, 4294967295, 0, 0), (1785877, 0, 4294967295, 0, 0)])]) (ext := [tr_T22]) (sp := []) (N := 1000) tr_h (sv_cv sm_195_52346597_ok (sv_cv sm_197_7e2dd2ff_ok sv_nv)) (by decide +kernel) (sv_cpR tr_T22_ok sv_npR) _ List.mem_cons_self
def tr_T21 : sv_CS := (19, 211, 211, 0, [some (.inr (some 106)), some (.inr (some 33)), some (.inl (0, 4294967295, 0, 0, 0)), some (.inl (2147483669, 2147483669, 0, 0, 0))], [], [(1736705, 2147483648, 2147483688, 0, 0)])
theorem tr_T21_ok : sv_plR hs_Rs sg tr_s 2 tr_T21 := sv_splitR (ts := tr_ts 21 211) rfl (fun t ht => by
  rcases List.mem_cons.mp ht with rfl | ht
  · exact tr_x21
  rcases List.mem_cons.mp ht with rfl | ht
  · exact tr_lo21
  rcases List.mem_cons.mp ht with rfl | ht
  · exact tr_mi21
  rcases List.mem_cons.mp ht with rfl | ht
  · exact tr_hi21
  · cases ht) (fun w0 w hR hfr hG hf => tr_sp 21 211 (by decide) hR hfr hG)
set_option maxRecDepth 1000000 in
theorem tr_x20 : sv_plR hs_Rs sg tr_s 2 (19, 202, 202, 0, [some (.inr (some 106)), some (.inr (some 33)), some (.inl (0, 4294967295, 0, 0, 0)), some (.inl (2147483668, 2147483668, 0, 0, 0))], [], [(1736705, 2147483648, 2147483668, 0, 0)]) := sv_chunkR (S := [sm_196_11501b45]) (cut := [19]) (cs := [(19, 202, 202, 0, [some (.inr (some 106)), some (.inr (some 33)), some (.inl (0, 4294967295, 0, 0, 0)), some (.inl (2147483668, 2147483668, 0, 0, 0))], [], [(1736705, 2147483648, 2147483668, 0, 0)])]) (ext := []) (sp := []) (N := 1000) tr_h (sv_cv sm_196_11501b45_ok sv_nv) (by decide +kernel) sv_npR _ List.mem_cons_self
set_option maxRecDepth 1000000 in
theorem tr_lo20 : sv_plR hs_Rs sg tr_s 2 (19, 203, 203, 0, [some (.inr (some 106)), some (.inr (some 33)), some (.inl (0, 4294967295, 0, 0, 0)), some (.inl (2147483668, 2147483668, 0, 0, 0))], [], [(1736705, 2147483669, 2147483688, 0, 0), (1753108, 0, 2147483663, 0, 0), (1785876, 0, 4294967295, 0, 0)]) := sv_chunkR (S := [sm_196_11501b45, sm_197_7e2dd2ff, sm_195_7803b48a]) (cut := [19]) (cs := [(19, 203, 203, 0, [some (.inr (some 106)), some (.inr (some 33)), some (.inl (0, 4294967295, 0, 0, 0)), some (.inl (2147483668, 2147483668, 0, 0, 0))], [], [(1736705, 2147483669, 2147483688, 0, 0), (1753108, 0, 2147483663, 0, 0), (1785876, 0, 4294967295, 0, 0)])]) (ext := [tr_T21]) (sp := []) (N := 1000) tr_h (sv_cv sm_196_11501b45_ok (sv_cv sm_197_7e2dd2ff_ok (sv_cv sm_195_7803b48a_ok sv_nv))) (by decide +kernel) (sv_cpR tr_T21_ok sv_npR) _ List.mem_cons_self
set_option maxRecDepth 1000000 in
theorem tr_mi20 : sv_plR hs_Rs sg tr_s 2 (19, 204, 204, 0, [some (.inr (some 106)), some (.inr (some 33)), some (.inl (0, 4294967295, 0, 0, 0)), some (.inl (2147483668, 2147483668, 0, 0, 0))], [], [(1736705, 2147483669, 2147483688, 0, 0), (1753108, 2147483664, 2147483665, 0, 0), (1785876, 2147483648, 2147483653, 0, 0)]) := sv_chunkR (S := [sm_195_e2d70709, sm_197_7e2dd2ff]) (cut := [19]) (cs := [(19, 204, 204, 0, [some (.inr (some 106)), some (.inr (some 33)), some (.inl (0, 4294967295, 0, 0, 0)), some (.inl (2147483668, 2147483668, 0, 0, 0))], [], [(1736705, 2147483669, 2147483688, 0, 0), (1753108, 2147483664, 2147483665, 0, 0), (1785876, 2147483648, 2147483653, 0, 0)])]) (ext := [tr_T21]) (sp := []) (N := 1000) tr_h (sv_cv sm_195_e2d70709_ok (sv_cv sm_197_7e2dd2ff_ok sv_nv)) (by decide +kernel) (sv_cpR tr_T21_ok sv_npR) _ List.mem_cons_self
set_option maxRecDepth 1000000 in
theorem tr_hi20 : sv_plR hs_Rs sg tr_s 2 (19, 205, 205, 0, [some (.inr (some 106)), some (.inr (some 33)), some (.inl (0, 4294967295, 0, 0, 0)), some (.inl (2147483668, 2147483668, 0, 0, 0))], [], [(1736705, 2147483669, 2147483688, 0, 0), (1753108, 2147483666, 4294967295, 0, 0), (1785876, 0, 4294967295, 0, 0)]) := sv_chunkR (S := [sm_195_4e065aa7, sm_197_7e2dd2ff]) (cut := [19]) (cs := [(19, 205, 205, 0, [some (.inr (some 106)), some (.inr (some 33)), some (.inl (0, 4294967295, 0, 0, 0)), some (.inl (2147483668, 2147483668, 0, 0, 0))], [], [(1736705, 2147483669, 2147483688, 0, 0), (1753108, 2147483666, 4294967295, 0, 0), (1785876, 0, 4294967295, 0, 0)])]) (ext := [tr_T21]) (sp := []) (N := 1000) tr_h (sv_cv sm_195_4e065aa7_ok (sv_cv sm_197_7e2dd2ff_ok sv_nv)) (by decide +kernel) (sv_cpR tr_T21_ok sv_npR) _ List.mem_cons_self
def tr_T20 : sv_CS := (19, 201, 201, 0, [some (.inr (some 106)), some (.inr (some 33)), some (.inl (0, 4294967295, 0, 0, 0)), some (.inl (2147483668, 2147483668, 0, 0, 0))], [], [(1736705, 2147483648, 2147483688, 0, 0)])
theorem tr_T20_ok : sv_plR hs_Rs sg tr_s 2 tr_T20 := sv_splitR (ts := tr_ts 20 201) rfl (fun t ht => by
  rcases List.mem_cons.mp ht with rfl | ht
  · exact tr_x20
  rcases List.mem_cons.mp ht with rfl | ht
  · exact tr_lo20
  rcases List.mem_cons.mp ht with rfl | ht
  · exact tr_mi20
  rcases List.mem_cons.mp ht with rfl | ht
  · exact tr_hi20
  · cases ht) (fun w0 w hR hfr hG hf => tr_sp 20 201 (by decide) hR hfr hG)
set_option maxRecDepth 1000000 in
theorem tr_x19 : sv_plR hs_Rs sg tr_s 2 (19, 192, 192, 0, [some (.inr (some 106)), some (.inr (some 33)), some (.inl (0, 4294967295, 0, 0, 0)), some (.inl (2147483667, 2147483667, 0, 0, 0))], [], [(1736705, 2147483648, 2147483667, 0, 0)]) := sv_chunkR (S := [sm_196_11501b45]) (cut := [19]) (cs := [(19, 192, 192, 0, [some (.inr (some 106)), some (.inr (some 33)), some (.inl (0, 4294967295, 0, 0, 0)), some (.inl (2147483667, 2147483667, 0, 0, 0))], [], [(1736705, 2147483648, 2147483667, 0, 0)])]) (ext := []) (sp := []) (N := 1000) tr_h (sv_cv sm_196_11501b45_ok sv_nv) (by decide +kernel) sv_npR _ List.mem_cons_self
set_option maxRecDepth 1000000 in
theorem tr_lo19 : sv_plR hs_Rs sg tr_s 2 (19, 193, 193, 0, [some (.inr (some 106)), some (.inr (some 33)), some (.inl (0, 4294967295, 0, 0, 0)), some (.inl (2147483667, 2147483667, 0, 0, 0))], [], [(1736705, 2147483668, 2147483688, 0, 0), (1753107, 0, 2147483663, 0, 0), (1785875, 0, 4294967295, 0, 0)]) := sv_chunkR (S := [sm_196_11501b45, sm_197_7e2dd2ff, sm_195_1db6ce9e]) (cut := [19]) (cs := [(19, 193, 193, 0, [some (.inr (some 106)), some (.inr (some 33)), some (.inl (0, 4294967295, 0, 0, 0)), some (.inl (2147483667, 2147483667, 0, 0, 0))], [], [(1736705, 2147483668, 2147483688, 0, 0), (1753107, 0, 2147483663, 0, 0), (1785875, 0, 4294967295, 0, 0)])]) (ext := [tr_T20]) (sp := []) (N := 1000) tr_h (sv_cv sm_196_11501b45_ok (sv_cv sm_197_7e2dd2ff_ok (sv_cv sm_195_1db6ce9e_ok sv_nv))) (by decide +kernel) (sv_cpR tr_T20_ok sv_npR) _ List.mem_cons_self
set_option maxRecDepth 1000000 in
theorem tr_mi19 : sv_plR hs_Rs sg tr_s 2 (19, 194, 194, 0, [some (.inr (some 106)), some (.inr (some 33)), some (.inl (0, 4294967295, 0, 0, 0)), some (.inl (2147483667, 2147483667, 0, 0, 0))], [], [(1736705, 2147483668, 2147483688, 0, 0), (1753107, 2147483664, 2147483665, 0, 0), (1785875, 2147483648, 2147483653, 0, 0)]) := sv_chunkR (S := [sm_195_ed7a8081, sm_197_7e2dd2ff]) (cut := [19]) (cs := [(19, 194, 194, 0, [some (.inr (some 106)), some (.inr (some 33)), some (.inl (0, 4294967295, 0, 0, 0)), some (.inl (2147483667, 2147483667, 0, 0, 0))], [], [(1736705, 2147483668, 2147483688, 0, 0), (1753107, 2147483664, 2147483665, 0, 0), (1785875, 2147483648, 2147483653, 0, 0)])]) (ext := [tr_T20]) (sp := []) (N := 1000) tr_h (sv_cv sm_195_ed7a8081_ok (sv_cv sm_197_7e2dd2ff_ok sv_nv)) (by decide +kernel) (sv_cpR tr_T20_ok sv_npR) _ List.mem_cons_self
set_option maxRecDepth 1000000 in
theorem tr_hi19 : sv_plR hs_Rs sg tr_s 2 (19, 195, 195, 0, [some (.inr (some 106)), some (.inr (some 33)), some (.inl (0, 4294967295, 0, 0, 0)), some (.inl (2147483667, 2147483667, 0, 0, 0))], [], [(1736705, 2147483668, 2147483688, 0, 0), (1753107, 2147483666, 4294967295, 0, 0), (1785875, 0, 4294967295, 0, 0)]) := sv_chunkR (S := [sm_195_f071022b, sm_197_7e2dd2ff]) (cut := [19]) (cs := [(19, 195, 195, 0, [some (.inr (some 106)), some (.inr (some 33)), some (.inl (0, 4294967295, 0, 0, 0)), some (.inl (2147483667, 2147483667, 0, 0, 0))], [], [(1736705, 2147483668, 2147483688, 0, 0), (1753107, 2147483666, 4294967295, 0, 0), (1785875, 0, 4294967295, 0, 0)])]) (ext := [tr_T20]) (sp := []) (N := 1000) tr_h (sv_cv sm_195_f071022b_ok (sv_cv sm_197_7e2dd2ff_ok sv_nv)) (by decide +kernel) (sv_cpR tr_T20_ok sv_npR) _ List.mem_cons_self
def tr_T19 : sv_CS := (19, 191, 191, 0, [some (.inr (some 106)), some (.inr (some 33)), some (.inl (0, 4294967295, 0, 0, 0)), some (.inl (2147483667, 2147483667, 0, 0, 0))], [], [(1736705, 2147483648, 2147483688, 0, 0)])
theorem tr_T19_ok : sv_plR hs_Rs sg tr_s 2 tr_T19 := sv_splitR (ts := tr_ts 19 191) rfl (fun t ht => by
  rcases List.mem_cons.mp ht with rfl | ht
  · exact tr_x19
  rcases List.mem_cons.mp ht with rfl | ht
  · exact tr_lo19
  rcases List.mem_cons.mp ht with rfl | ht
  · exact tr_mi19
  rcases List.mem_cons.mp ht with rfl | ht
  · exact tr_hi19
  · cases ht) (fun w0 w hR hfr hG hf => tr_sp 19 191 (by decide) hR hfr hG)
set_option maxRecDepth 1000000 in
theorem tr_x18 : sv_plR hs_Rs sg tr_s 2 (19, 182, 182, 0, [some (.inr (some 106)), some (.inr (some 33)), some (.inl (0, 4294967295, 0, 0, 0)), some (.inl (2147483666, 2147483666, 0, 0, 0))], [], [(1736705, 2147483648, 2147483666, 0, 0)]) := sv_chunkR (S := [sm_196_11501b45]) (cut := [19]) (cs := [(19, 182, 182, 0, [some (.inr (some 106)), some (.inr (some 33)), some (.inl (0, 4294967295, 0, 0, 0)), some (.inl (2147483666, 2147483666, 0, 0, 0))], [], [(1736705, 2147483648, 2147483666, 0, 0)])]) (ext := []) (sp := []) (N := 1000) tr_h (sv_cv sm_196_11501b45_ok sv_nv) (by decide +kernel) sv_npR _ List.mem_cons_self
set_option maxRecDepth 1000000 in
theorem tr_lo18 : sv_plR hs_Rs sg tr_s 2 (19, 183, 183, 0, [some (.inr (some 106)), some (.inr (some 33)), some (.inl (0, 4294967295, 0, 0, 0)), some (.inl (2147483666, 2147483666, 0, 0, 0))], [], [(1736705, 2147483667, 2147483688, 0, 0), (1753106, 0, 2147483663, 0, 0), (1785874, 0, 4294967295, 0, 0)]) := sv_chunkR (S := [sm_196_11501b45, sm_197_7e2dd2ff, sm_195_7b8b3a93]) (cut := [19]) (cs := [(19, 183, 183, 0, [some (.inr (some 106)), some (.inr (some 33)), some (.inl (0, 4294967295, 0, 0, 0)), some (.inl (2147483666, 2147483666, 0, 0, 0))], [], [(1736705, 2147483667, 2147483688, 0, 0), (1753106, 0, 2147483663, 0, 0), (1785874, 0, 4294967295, 0, 0)])]) (ext := [tr_T19]) (sp := []) (N := 1000) tr_h (sv_cv sm_196_11501b45_ok (sv_cv sm_197_7e2dd2ff_ok (sv_cv sm_195_7b8b3a93_ok sv_nv))) (by decide +kernel) (sv_cpR tr_T19_ok sv_npR) _ List.mem_cons_self
set_option maxRecDepth 1000000 in
theorem tr_mi18 : sv_plR hs_Rs sg tr_s 2 (19, 184, 184, 0, [some (.inr (some 106)), some (.inr (some 33)), some (.inl (0, 4294967295, 0, 0, 0)), some (.inl (2147483666, 2147483666, 0, 0, 0))], [], [(1736705, 2147483667, 2147483688, 0, 0), (1753106, 2147483664, 2147483665, 0, 0), (1785874, 2147483648, 2147483653, 0, 0)]) := sv_chunkR (S := [sm_195_d44e7719, sm_197_7e2dd2ff]) (cut := [19]) (cs := [(19, 184, 184, 0, [some (.inr (some 106)), some (.inr (some 33)), some (.inl (0, 4294967295, 0, 0, 0)), some (.inl (2147483666, 2147483666, 0, 0, 0))], [], [(1736705, 2147483667, 2147483688, 0, 0), (1753106, 2147483664, 2147483665, 0, 0), (1785874, 2147483648, 2147483653, 0, 0)])]) (ext := [tr_T19]) (sp := []) (N := 1000) tr_h (sv_cv sm_195_d44e7719_ok (sv_cv sm_197_7e2dd2ff_ok sv_nv)) (by decide +kernel) (sv_cpR tr_T19_ok sv_npR) _ List.mem_cons_self
set_option maxRecDepth 1000000 in
theorem tr_hi18 : sv_plR hs_Rs sg tr_s 2 (19, 185, 185, 0, [some (.inr (some 106)), some (.inr (some 33)), some (.inl (0, 4294967295, 0, 0, 0)), some (.inl (2147483666, 2147483666, 0, 0, 0))], [], [(1736705, 2147483667, 2147483688, 0, 0), (1753106, 2147483666, 4294967295, 0, 0), (1785874, 0, 4294967295, 0, 0)]) := sv_chunkR (S := [sm_195_ec433d1b, sm_197_7e2dd2ff]) (cut := [19]) (cs := [(19, 185, 185, 0, [some (.inr (some 106)), some (.inr (some 33)), some (.inl (0, 4294967295, 0, 0, 0)), some (.inl (2147483666, 2147483666, 0, 0, 0))], [], [(1736705, 2147483667, 2147483688, 0, 0), (1753106, 2147483666, 4294967295, 0, 0), (1785874, 0, 4294967295, 0, 0)])]) (ext := [tr_T19]) (sp := []) (N := 1000) tr_h (sv_cv sm_195_ec433d1b_ok (sv_cv sm_197_7e2dd2ff_ok sv_nv)) (by decide +kernel) (sv_cpR tr_T19_ok sv_npR) _ List.mem_cons_self
def tr_T18 : sv_CS := (19, 181, 181, 0, [some (.inr (some 106)), some (.inr (some 33)), some (.inl (0, 4294967295, 0, 0, 0)), some (.inl (2147483666, 2147483666, 0, 0, 0))], [], [(1736705, 2147483648, 2147483688, 0, 0)])
theorem tr_T18_ok : sv_plR hs_Rs sg tr_s 2 tr_T18 := sv_splitR (ts := tr_ts 18 181) rfl (fun t ht => by
  rcases List.mem_cons.mp ht with rfl | ht
  · exact tr_x18
  rcases List.mem_cons.mp ht with rfl | ht
  · exact tr_lo18
  rcases List.mem_cons.mp ht with rfl | ht
  · exact tr_mi18
  rcases List.mem_cons.mp ht with rfl | ht
  · exact tr_hi18
  · cases ht) (fun w0 w hR hfr hG hf => tr_sp 18 181 (by decide) hR hfr hG)
set_option maxRecDepth 1000000 in
theorem tr_x17 : sv_plR hs_Rs sg tr_s 2 (19, 172, 172, 0, [some (.inr (some 106)), some (.inr (some 33)), some (.inl (0, 4294967295, 0, 0, 0)), some (.inl (2147483665, 2147483665, 0, 0, 0))], [], [(1736705, 2147483648, 2147483665, 0, 0)]) := sv_chunkR (S := [sm_196_11501b45]) (cut := [19]) (cs := [(19, 172, 172, 0, [some (.inr (some 106)), some (.inr (some 33)), some (.inl (0, 4294967295, 0, 0, 0)), some (.inl (2147483665, 2147483665, 0, 0, 0))], [], [(1736705, 2147483648, 2147483665, 0, 0)])]) (ext := []) (sp := []) (N := 1000) tr_h (sv_cv sm_196_11501b45_ok sv_nv) (by decide +kernel) sv_npR _ List.mem_cons_self
set_option maxRecDepth 1000000 in
theorem tr_lo17 : sv_plR hs_Rs sg tr_s 2 (19, 173, 173, 0, [some (.inr (some 106)), some (.inr (some 33)), some (.inl (0, 4294967295, 0, 0, 0)), some (.inl (2147483665, 2147483665, 0, 0, 0))], [], [(1736705, 2147483666, 2147483688, 0, 0), (1753105, 0, 2147483663, 0, 0), (1785873, 0, 4294967295, 0, 0)]) := sv_chunkR (S := [sm_196_11501b45, sm_197_7e2dd2ff, sm_195_d71ad2f0]) (cut := [19]) (cs := [(19, 173, 173, 0, [some (.inr (some 106)), some (.inr (some 33)), some (.inl (0, 4294967295, 0, 0, 0)), some (.inl (2147483665, 2147483665, 0, 0, 0))], [], [(1736705, 2147483666, 2147483688, 0, 0), (1753105, 0, 2147483663, 0, 0), (1785873, 0, 4294967295, 0, 0)])]) (ext := [tr_T18]) (sp := []) (N := 1000) tr_h (sv_cv sm_196_11501b45_ok (sv_cv sm_197_7e2dd2ff_ok (sv_cv sm_195_d71ad2f0_ok sv_nv))) (by decide +kernel) (sv_cpR tr_T18_ok sv_npR) _ List.mem_cons_self
set_option maxRecDepth 1000000 in
theorem tr_mi17 : sv_plR hs_Rs sg tr_s 2 (19, 174, 174, 0, [some (.inr (some 106)), some (.inr (some 33)), some (.inl (0, 4294967295, 0, 0, 0)), some (.inl (2147483665, 2147483665, 0, 0, 0))], [], [(1736705, 2147483666, 2147483688, 0, 0), (1753105, 2147483664, 2147483665, 0, 0), (1785873, 2147483648, 2147483653, 0, 0)]) := sv_chunkR (S := [sm_195_f140390e, sm_197_7e2dd2ff]) (cut := [19]) (cs := [(19, 174, 174, 0, [some (.inr (some 106)), some (.inr (some 33)), some (.inl (0, 4294967295, 0, 0, 0)), some (.inl (2147483665, 2147483665, 0, 0, 0))], [], [(1736705, 2147483666, 2147483688, 0, 0), (1753105, 2147483664, 2147483665, 0, 0), (1785873, 2147483648, 2147483653, 0, 0)])]) (ext := [tr_T18]) (sp := []) (N := 1000) tr_h (sv_cv sm_195_f140390e_ok (sv_cv sm_197_7e2dd2ff_ok sv_nv)) (by decide +kernel) (sv_cpR tr_T18_ok sv_npR) _ List.mem_cons_self
set_option maxRecDepth 1000000 in
theorem tr_hi17 : sv_plR hs_Rs sg tr_s 2 (19, 175, 175, 0, [some (.inr (some 106)), some (.inr (some 33)), some (.inl (0, 4294967295, 0, 0, 0)), some (.inl (2147483665, 2147483665, 0, 0, 0))], [], [(1736705, 2147483666, 2147483688, 0, 0), (1753105, 2147483666, 4294967295, 0, 0), (1785873, 0, 4294967295, 0, 0)]) := sv_chunkR (S := [sm_195_cec2883f, sm_197_7e2dd2ff]) (cut := [19]) (cs := [(19, 175, 175, 0, [some (.inr (some 106)), some (.inr (some 33)), some (.inl (0, 4294967295, 0, 0, 0)), some (.inl (2147483665, 2147483665, 0, 0, 0))], [], [(1736705, 2147483666, 2147483688, 0, 0), (1753105, 2147483666, 4294967295, 0, 0), (1785873, 0, 4294967295, 0, 0)])]) (ext := [tr_T18]) (sp := []) (N := 1000) tr_h (sv_cv sm_195_cec2883f_ok (sv_cv sm_197_7e2dd2ff_ok sv_nv)) (by decide +kernel) (sv_cpR tr_T18_ok sv_npR) _ List.mem_cons_self
def tr_T17 : sv_CS := (19, 171, 171, 0, [some (.inr (some 106)), some (.inr (some 33)), some (.inl (0, 4294967295, 0, 0, 0)), some (.inl (2147483665, 2147483665, 0, 0, 0))], [], [(1736705, 2147483648, 2147483688, 0, 0)])
theorem tr_T17_ok : sv_plR hs_Rs sg tr_s 2 tr_T17 := sv_splitR (ts := tr_ts 17 171) rfl (fun t ht => by
  rcases List.mem_cons.mp ht with rfl | ht
  · exact tr_x17
  rcases List.mem_cons.mp ht with rfl | ht
  · exact tr_lo17
  rcases List.mem_cons.mp ht with rfl | ht
  · exact tr_mi17
  rcases List.mem_cons.mp ht with rfl | ht
  · exact tr_hi17
  · cases ht) (fun w0 w hR hfr hG hf => tr_sp 17 171 (by decide) hR hfr hG)
set_option maxRecDepth 1000000 in
theorem tr_x16 : sv_plR hs_Rs sg tr_s 2 (19, 162, 162, 0, [some (.inr (some 106)), some (.inr (some 33)), some (.inl (0, 4294967295, 0, 0, 0)), some (.inl (2147483664, 2147483664, 0, 0, 0))], [], [(1736705, 2147483648, 2147483664, 0, 0)]) := sv_chunkR (S := [sm_196_11501b45]) (cut := [19]) (cs := [(19, 162, 162, 0, [some (.inr (some 106)), some (.inr (some 33)), some (.inl (0, 4294967295, 0, 0, 0)), some (.inl (2147483664, 2147483664, 0, 0, 0))], [], [(1736705, 2147483648, 2147483664, 0, 0)])]) (ext := []) (sp := []) (N := 1000) tr_h (sv_cv sm_196_11501b45_ok sv_nv) (by decide +kernel) sv_npR _ List.mem_cons_self
set_option maxRecDepth 1000000 in
theorem tr_lo16 : sv_plR hs_Rs sg tr_s 2 (19, 163, 163, 0, [some (.inr (some 106)), some (.inr (some 33)), some (.inl (0, 4294967295, 0, 0, 0)), some (.inl (2147483664, 2147483664, 0, 0, 0))], [], [(1736705, 2147483665, 2147483688, 0, 0), (1753104, 0, 2147483663, 0, 0), (1785872, 0, 4294967295, 0, 0)]) := sv_chunkR (S := [sm_196_11501b45, sm_197_7e2dd2ff, sm_195_b12726fd]) (cut := [19]) (cs := [(19, 163, 163, 0, [some (.inr (some 106)), some (.inr (some 33)), some (.inl (0, 4294967295, 0, 0, 0)), some (.inl (2147483664, 2147483664, 0, 0, 0))], [], [(1736705, 2147483665, 2147483688, 0, 0), (1753104, 0, 2147483663, 0, 0), (1785872, 0, 4294967295, 0, 0)])]) (ext := [tr_T17]) (sp := []) (N := 1000) tr_h (sv_cv sm_196_11501b45_ok (sv_cv sm_197_7e2dd2ff_ok (sv_cv sm_195_b12726fd_ok sv_nv))) (by decide +kernel) (sv_cpR tr_T17_ok sv_npR) _ List.mem_cons_self
set_option maxRecDepth 1000000 in
theorem tr_mi16 : sv_plR hs_Rs sg tr_s 2 (19, 164, 164, 0, [some (.inr (some 106)), some (.inr (some 33)), some (.inl (0, 4294967295, 0, 0, 0)), some (.inl (2147483664, 2147483664, 0, 0, 0))], [], [(1736705, 2147483665, 2147483688, 0, 0), (1753104, 2147483664, 2147483665, 0, 0), (1785872, 2147483648, 2147483653, 0, 0)]) := sv_chunkR (S := [sm_195_c874ce96, sm_197_7e2dd2ff]) (cut := [19]) (cs := [(19, 164, 164, 0, [some (.inr (some 106)), some (.inr (some 33)), some (.inl (0, 4294967295, 0, 0, 0)), some (.inl (2147483664, 2147483664, 0, 0, 0))], [], [(1736705, 2147483665, 2147483688, 0, 0), (1753104, 2147483664, 2147483665, 0, 0), (1785872, 2147483648, 2147483653, 0, 0)])]) (ext := [tr_T17]) (sp := []) (N := 1000) tr_h (sv_cv sm_195_c874ce96_ok (sv_cv sm_197_7e2dd2ff_ok sv_nv)) (by decide +kernel) (sv_cpR tr_T17_ok sv_npR) _ List.mem_cons_self
set_option maxRecDepth 1000000 in
theorem tr_hi16 : sv_plR hs_Rs sg tr_s 2 (19, 165, 165, 0, [some (.inr (some 106)), some (.inr (some 33)), some (.inl (0, 4294967295, 0, 0, 0)), some (.inl (2147483664, 2147483664, 0, 0, 0))], [], [(1736705, 2147483665, 2147483688, 0, 0), (1753104, 2147483666, 4294967295, 0, 0), (1785872, 0, 4294967295, 0, 0)]) := sv_chunkR (S := [sm_195_d2f0b70f, sm_197_7e2dd2ff]) (cut := [19]) (cs := [(19, 165, 165, 0, [some (.inr (some 106)), some (.inr (some 33)), some (.inl (0, 4294967295, 0, 0, 0)), some (.inl (2147483664, 2147483664, 0, 0, 0))], [], [(1736705, 2147483665, 2147483688, 0, 0), (1753104, 2147483666, 4294967295, 0, 0), (1785872, 0, 4294967295, 0, 0)])]) (ext := [tr_T17]) (sp := []) (N := 1000) tr_h (sv_cv sm_195_d2f0b70f_ok (sv_cv sm_197_7e2dd2ff_ok sv_nv)) (by decide +kernel) (sv_cpR tr_T17_ok sv_npR) _ List.mem_cons_self
def tr_T16 : sv_CS := (19, 161, 161, 0, [some (.inr (some 106)), some (.inr (some 33)), some (.inl (0, 4294967295, 0, 0, 0)), some (.inl (2147483664, 2147483664, 0, 0, 0))], [], [(1736705, 2147483648, 2147483688, 0, 0)])
theorem tr_T16_ok : sv_plR hs_Rs sg tr_s 2 tr_T16 := sv_splitR (ts := tr_ts 16 161) rfl (fun t ht => by
  rcases List.mem_cons.mp ht with rfl | ht
  · exact tr_x16
  rcases List.mem_cons.mp ht with rfl | ht
  · exact tr_lo16
  rcases List.mem_cons.mp ht with rfl | ht
  · exact tr_mi16
  rcases List.mem_cons.mp ht with rfl | ht
  · exact tr_hi16
  · cases ht) (fun w0 w hR hfr hG hf => tr_sp 16 161 (by decide) hR hfr hG)
set_option maxRecDepth 1000000 in
theorem tr_x15 : sv_plR hs_Rs sg tr_s 2 (19, 152, 152, 0, [some (.inr (some 106)), some (.inr (some 33)), some (.inl (0, 4294967295, 0, 0, 0)), some (.inl (2147483663, 2147483663, 0, 0, 0))], [], [(1736705, 2147483648, 2147483663, 0, 0)]) := sv_chunkR (S := [sm_196_11501b45]) (cut := [19]) (cs := [(19, 152, 152, 0, [some (.inr (some 106)), some (.inr (some 33)), some (.inl (0, 4294967295, 0, 0, 0)), some (.inl (2147483663, 2147483663, 0, 0, 0))], [], [(1736705, 2147483648, 2147483663, 0, 0)])]) (ext := []) (sp := []) (N := 1000) tr_h (sv_cv sm_196_11501b45_ok sv_nv) (by decide +kernel) sv_npR _ List.mem_cons_self
set_option maxRecDepth 1000000 in
theorem tr_lo15 : sv_plR hs_Rs sg tr_s 2 (19, 153, 153, 0, [some (.inr (some 106)), some (.inr (some 33)), some (.inl (0, 4294967295, 0, 0, 0)), some (.inl (2147483663, 2147483663, 0, 0, 0))], [], [(1736705, 2147483664, 2147483688, 0, 0), (1753103, 0, 2147483663, 0, 0), (1785871, 0, 4294967295, 0, 0)]) := sv_chunkR (S := [sm_196_11501b45, sm_197_7e2dd2ff, sm_195_5e3018eb]) (cut := [19]) (cs := [(19, 153, 153, 0, [some (.inr (some 106)), some (.inr (some 33)), some (.inl (0, 4294967295, 0, 0, 0)), some (.inl (2147483663, 2147483663, 0, 0, 0))], [], [(1736705, 2147483664, 2147483688, 0, 0), (1753103, 0, 2147483663, 0, 0), (1785871, 0, 4294967295, 0, 0)])]) (ext := [tr_T16]) (sp := []) (N := 1000) tr_h (sv_cv sm_196_11501b45_ok (sv_cv sm_197_7e2dd2ff_ok (sv_cv sm_195_5e3018eb_ok sv_nv))) (by decide +kernel) (sv_cpR tr_T16_ok sv_npR) _ List.mem_cons_self
set_option maxRecDepth 1000000 in
theorem tr_mi15 : sv_plR hs_Rs sg tr_s 2 (19, 154, 154, 0, [some (.inr (some 106)), some (.inr (some 33)), some (.inl (0, 4294967295, 0, 0, 0)), some (.inl (2147483663, 2147483663, 0, 0, 0))], [], [(1736705, 2147483664, 2147483688, 0, 0), (1753103, 2147483664, 2147483665, 0, 0), (1785871, 2147483648, 2147483653, 0, 0)]) := sv_chunkR (S := [sm_195_09a95ee1, sm_197_7e2dd2ff]) (cut := [19]) (cs := [(19, 154, 154, 0, [some (.inr (some 106)), some (.inr (some 33)), some (.inl (0, 4294967295, 0, 0, 0)), some (.inl (2147483663, 2147483663, 0, 0, 0))], [], [(1736705, 2147483664, 2147483688, 0, 0), (1753103, 2147483664, 2147483665, 0, 0), (1785871, 2147483648, 2147483653, 0, 0)])]) (ext := [tr_T16]) (sp := []) (N := 1000) tr_h (sv_cv sm_195_09a95ee1_ok (sv_cv sm_197_7e2dd2ff_ok sv_nv)) (by decide +kernel) (sv_cpR tr_T16_ok sv_npR) _ List.mem_cons_self
set_option maxRecDepth 1000000 in
theorem tr_hi15 : sv_plR hs_Rs sg tr_s 2 (19, 155, 155, 0, [some (.inr (some 106)), some (.inr (some 33)), some (.inl (0, 4294967295, 0, 0, 0)), some (.inl (2147483663, 2147483663, 0, 0, 0))], [], [(1736705, 2147483664, 2147483688, 0, 0), (1753103, 2147483666, 4294967295, 0, 0), (1785871, 0, 4294967295, 0, 0)]) := sv_chunkR (S := [sm_195_80b9feeb, sm_197_7e2dd2ff]) (cut := [19]) (cs := [(19, 155, 155, 0, [some (.inr (some 106)), some (.inr (some 33)), some (.inl (0, 4294967295, 0, 0, 0)), some (.inl (2147483663, 2147483663, 0, 0, 0))], [], [(1736705, 2147483664, 2147483688, 0, 0), (1753103, 2147483666, 4294967295, 0, 0), (1785871, 0, 4294967295, 0, 0)])]) (ext := [tr_T16]) (sp := []) (N := 1000) tr_h (sv_cv sm_195_80b9feeb_ok (sv_cv sm_197_7e2dd2ff_ok sv_nv)) (by decide +kernel) (sv_cpR tr_T16_ok sv_npR) _ List.mem_cons_self
def tr_T15 : sv_CS := (19, 151, 151, 0, [some (.inr (some 106)), some (.inr (some 33)), some (.inl (0, 4294967295, 0, 0, 0)), some (.inl (2147483663, 2147483663, 0, 0, 0))], [], [(1736705, 2147483648, 2147483688, 0, 0)])
theorem tr_T15_ok : sv_plR hs_Rs sg tr_s 2 tr_T15 := sv_splitR (ts := tr_ts 15 151) rfl (fun t ht => by
  rcases List.mem_cons.mp ht with rfl | ht
  · exact tr_x15
  rcases List.mem_cons.mp ht with rfl | ht
  · exact tr_lo15
  rcases List.mem_cons.mp ht with rfl | ht
  · exact tr_mi15
  rcases List.mem_cons.mp ht with rfl | ht
  · exact tr_hi15
  · cases ht) (fun w0 w hR hfr hG hf => tr_sp 15 151 (by decide) hR hfr hG)
set_option maxRecDepth 1000000 in
theorem tr_x14 : sv_plR hs_Rs sg tr_s 2 (19, 142, 142, 0, [some (.inr (some 106)), some (.inr (some 33)), some (.inl (0, 4294967295, 0, 0, 0)), some (.inl (2147483662, 2147483662, 0, 0, 0))], [], [(1736705, 2147483648, 2147483662, 0, 0)]) := sv_chunkR (S := [sm_196_11501b45]) (cut := [19]) (cs := [(19, 142, 142, 0, [some (.inr (some 106)), some (.inr (some 33)), some (.inl (0, 4294967295, 0, 0, 0)), some (.inl (2147483662, 2147483662, 0, 0, 0))], [], [(1736705, 2147483648, 2147483662, 0, 0)])]) (ext := []) (sp := []) (N := 1000) tr_h (sv_cv sm_196_11501b45_ok sv_nv) (by decide +kernel) sv_npR _ List.mem_cons_self
set_option maxRecDepth 1000000 in
theorem tr_lo14 : sv_plR hs_Rs sg tr_s 2 (19, 143, 143, 0, [some (.inr (some 106)), some (.inr (some 33)), some (.inl (0, 4294967295, 0, 0, 0)), some (.inl (2147483662, 2147483662, 0, 0, 0))], [], [(1736705, 2147483663, 2147483688, 0, 0), (1753102, 0, 2147483663, 0, 0), (1785870, 0, 4294967295, 0, 0)]) := sv_chunkR (S := [sm_196_11501b45, sm_197_7e2dd2ff, sm_195_380dece6]) (cut := [19]) (cs := [(19, 143, 143, 0, [some (.inr (some 106)), some (.inr (some 33)), some (.inl (0, 4294967295, 0, 0, 0)), some (.inl (2147483662, 2147483662, 0, 0, 0))], [], [(1736705, 2147483663, 2147483688, 0, 0), (1753102, 0, 2147483663, 0, 0), (1785870, 0, 4294967295, 0, 0)])]) (ext := [tr_T15]) (sp := []) (N := 1000) tr_h (sv_cv sm_196_11501b45_ok (sv_cv sm_197_7e2dd2ff_ok (sv_cv sm_195_380dece6_ok sv_nv))) (by decide +kernel) (sv_cpR tr_T15_ok sv_npR) _ List.mem_cons_self
set_option maxRecDepth 1000000 in
theorem tr_mi14 : sv_plR hs_Rs sg tr_s 2 (19, 144, 144, 0, [some (.inr (some 106)), some (.inr (some 33)), some (.inl (0, 4294967295, 0, 0, 0)), some (.inl (2147483662, 2147483662, 0, 0, 0))], [], [(1736705, 2147483663, 2147483688, 0, 0), (1753102, 2147483664, 2147483665, 0, 0), (1785870, 2147483648, 2147483653, 0, 0)]) := sv_chunkR (S := [sm_195_309da979, sm_197_7e2dd2ff]) (cut := [19]) (cs := [(19, 144, 144, 0, [some (.inr (some 106)), some (.inr (some 33)), some (.inl (0, 4294967295, 0, 0, 0)), some (.inl (2147483662, 2147483662, 0, 0, 0))], [], [(1736705, 2147483663, 2147483688, 0, 0), (1753102, 2147483664, 2147483665, 0, 0), (1785870, 2147483648, 2147483653, 0, 0)])]) (ext := [tr_T15]) (sp := []) (N := 1000) tr_h (sv_cv sm_195_309da979_ok (sv_cv sm_197_7e2dd2ff_ok sv_nv)) (by decide +kernel) (sv_cpR tr_T15_ok sv_npR) _ List.mem_cons_self
set_option maxRecDepth 1000000 in
theorem tr_hi14 : sv_plR hs_Rs sg tr_s 2 (19, 145, 145, 0, [some (.inr (some 106)), some (.inr (some 33)), some (.inl (0, 4294967295, 0, 0, 0)), some (.inl (2147483662, 2147483662, 0, 0, 0))], [], [(1736705, 2147483663, 2147483688, 0, 0), (1753102, 2147483666, 4294967295, 0, 0), (1785870, 0, 4294967295, 0, 0)]) := sv_chunkR (S := [sm_195_9c8bc1db, sm_197_7e2dd2ff]) (cut := [19]) (cs := [(19, 145, 145, 0, [some (.inr (some 106)), some (.inr (some 33)), some (.inl (0, 4294967295, 0, 0, 0)), some (.inl (2147483662, 2147483662, 0, 0, 0))], [], [(1736705, 2147483663, 2147483688, 0, 0), (1753102, 2147483666, 4294967295, 0, 0), (1785870, 0, 4294967295, 0, 0)])]) (ext := [tr_T15]) (sp := []) (N := 1000) tr_h (sv_cv sm_195_9c8bc1db_ok (sv_cv sm_197_7e2dd2ff_ok sv_nv)) (by decide +kernel) (sv_cpR tr_T15_ok sv_npR) _ List.mem_cons_self
def tr_T14 : sv_CS := (19, 141, 141, 0, [some (.inr (some 106)), some (.inr (some 33)), some (.inl (0, 4294967295, 0, 0, 0)), some (.inl (2147483662, 2147483662, 0, 0, 0))], [], [(1736705, 2147483648, 2147483688, 0, 0)])
theorem tr_T14_ok : sv_plR hs_Rs sg tr_s 2 tr_T14 := sv_splitR (ts := tr_ts 14 141) rfl (fun t ht => by
  rcases List.mem_cons.mp ht with rfl | ht
  · exact tr_x14
  rcases List.mem_cons.mp ht with rfl | ht
  · exact tr_lo14
  rcases List.mem_cons.mp ht with rfl | ht
  · exact tr_mi14
  rcases List.mem_cons.mp ht with rfl | ht
  · exact tr_hi14
  · cases ht) (fun w0 w hR hfr hG hf => tr_sp 14 141 (by decide) hR hfr hG)
set_option maxRecDepth 1000000 in
theorem tr_x13 : sv_plR hs_Rs sg tr_s 2 (19, 132, 132, 0, [some (.inr (some 106)), some (.inr (some 33)), some (.inl (0, 4294967295, 0, 0, 0)), some (.inl (2147483661, 2147483661, 0, 0, 0))], [], [(1736705, 2147483648, 2147483661, 0, 0)]) := sv_chunkR (S := [sm_196_11501b45]) (cut := [19]) (cs := [(19, 132, 132, 0, [some (.inr (some 106)), some (.inr (some 33)), some (.inl (0, 4294967295, 0, 0, 0)), some (.inl (2147483661, 2147483661, 0, 0, 0))], [], [(1736705, 2147483648, 2147483661, 0, 0)])]) (ext := []) (sp := []) (N := 1000) tr_h (sv_cv sm_196_11501b45_ok sv_nv) (by decide +kernel) sv_npR _ List.mem_cons_self
set_option maxRecDepth 1000000 in
theorem tr_lo13 : sv_plR hs_Rs sg tr_s 2 (19, 133, 133, 0, [some (.inr (some 106)), some (.inr (some 33)), some (.inl (0, 4294967295, 0, 0, 0)), some (.inl (2147483661, 2147483661, 0, 0, 0))], [], [(1736705, 2147483662, 2147483688, 0, 0), (1753101, 0, 2147483663, 0, 0), (1785869, 0, 4294967295, 0, 0)]) := sv_chunkR (S := [sm_196_11501b45, sm_197_7e2dd2ff, sm_195_ff883b07]) (cut := [19]) (cs := [(19, 133, 133, 0, [some (.inr (some 106)), some (.inr (some 33)), some (.inl (0, 4294967295, 0, 0, 0)), some (.inl (2147483661, 2147483661, 0, 0, 0))], [], [(1736705, 2147483662, 2147483688, 0, 0), (1753101, 0, 2147483663, 0, 0), (1785869, 0, 4294967295, 0, 0)])]) (ext := [tr_T14]) (sp := []) (N := 1000) tr_h (sv_cv sm_196_11501b45_ok (sv_cv sm_197_7e2dd2ff_ok (sv_cv sm_195_ff883b07_ok sv_nv))) (by decide +kernel) (sv_cpR tr_T14_ok sv_npR) _ List.mem_cons_self
set_option maxRecDepth 1000000 in
theorem tr_mi13 : sv_plR hs_Rs sg tr_s 2 (19, 134, 134, 0, [some (.inr (some 106)), some (.inr (some 33)), some (.inl (0, 4294967295, 0, 0, 0)), some (.inl (2147483661, 2147483661, 0, 0, 0))], [], [(1736705, 2147483662, 2147483688, 0, 0), (1753101, 2147483664, 2147483665, 0, 0), (1785869, 2147483648, 2147483653, 0, 0)]) := sv_chunkR (S := [sm_195_f07fc932, sm_197_7e2dd2ff]) (cut := [19]) (cs := [(19, 134, 134, 0, [some (.inr (some 106)), some (.inr (some 33)), some (.inl (0, 4294967295, 0, 0, 0)), some (.inl (2147483661, 2147483661, 0, 0, 0))], [], [(1736705, 2147483662, 2147483688, 0, 0), (1753101, 2147483664, 2147483665, 0, 0), (1785869, 2147483648, 2147483653, 0, 0)])]) (ext := [tr_T14]) (sp := []) (N := 1000) tr_h (sv_cv sm_195_f07fc932_ok (sv_cv sm_197_7e2dd2ff_ok sv_nv)) (by decide +kernel) (sv_cpR tr_T14_ok sv_npR) _ List.mem_cons_self
set_option maxRecDepth 1000000 in
theorem tr_hi13 : sv_plR hs_Rs sg tr_s 2 (19, 135, 135, 0, [some (.inr (some 106)), some (.inr (some 33)), some (.inl (0, 4294967295, 0, 0, 0)), some (.inl (2147483661, 2147483661, 0, 0, 0))], [], [(1736705, 2147483662, 2147483688, 0, 0), (1753101, 2147483666, 4294967295, 0, 0), (1785869, 0, 4294967295, 0, 0)]) := sv_chunkR (S := [sm_195_d51e4b7d, sm_197_7e2dd2ff]) (cut := [19]) (cs := [(19, 135, 135, 0, [some (.inr (some 106)), some (.inr (some 33)), some (.inl (0, 4294967295, 0, 0, 0)), some (.inl (2147483661, 2147483661, 0, 0, 0))], [], [(1736705, 2147483662, 2147483688, 0, 0), (1753101, 2147483666, 4294967295, 0, 0), (1785869, 0, 4294967295, 0, 0)])]) (ext := [tr_T14]) (sp := []) (N := 1000) tr_h (sv_cv sm_195_d51e4b7d_ok (sv_cv sm_197_7e2dd2ff_ok sv_nv)) (by decide +kernel) (sv_cpR tr_T14_ok sv_npR) _ List.mem_cons_self
def tr_T13 : sv_CS := (19, 131, 131, 0, [some (.inr (some 106)), some (.inr (some 33)), some (.inl (0, 4294967295, 0, 0, 0)), some (.inl (2147483661, 2147483661, 0, 0, 0))], [], [(1736705, 2147483648, 2147483688, 0, 0)])
theorem tr_T13_ok : sv_plR hs_Rs sg tr_s 2 tr_T13 := sv_splitR (ts := tr_ts 13 131) rfl (fun t ht => by
  rcases List.mem_cons.mp ht with rfl | ht
  · exact tr_x13
  rcases List.mem_cons.mp ht with rfl | ht
  · exact tr_lo13
  rcases List.mem_cons.mp ht with rfl | ht
  · exact tr_mi13
  rcases List.mem_cons.mp ht with rfl | ht
  · exact tr_hi13
  · cases ht) (fun w0 w hR hfr hG hf => tr_sp 13 131 (by decide) hR hfr hG)
set_option maxRecDepth 1000000 in
theorem tr_x12 : sv_plR hs_Rs sg tr_s 2 (19, 122, 122, 0, [some (.inr (some 106)), some (.inr (some 33)), some (.inl (0, 4294967295, 0, 0, 0)), some (.inl (2147483660, 2147483660, 0, 0, 0))], [], [(1736705, 2147483648, 2147483660, 0, 0)]) := sv_chunkR (S := [sm_196_11501b45]) (cut := [19]) (cs := [(19, 122, 122, 0, [some (.inr (some 106)), some (.inr (some 33)), some (.inl (0, 4294967295, 0, 0, 0)), some (.inl (2147483660, 2147483660, 0, 0, 0))], [], [(1736705, 2147483648, 2147483660, 0, 0)])]) (ext := []) (sp := []) (N := 1000) tr_h (sv_cv sm_196_11501b45_ok sv_nv) (by decide +kernel) sv_npR _ List.mem_cons_self
set_option maxRecDepth 1000000 in
theorem tr_lo12 : sv_plR hs_Rs sg tr_s 2 (19, 123, 123, 0, [some (.inr (some 106)), some (.inr (some 33)), some (.inl (0, 4294967295, 0, 0, 0)), some (.inl (2147483660, 2147483660, 0, 0, 0))], [], [(1736705, 2147483661, 2147483688, 0, 0), (1753100, 0, 2147483663, 0, 0), (1785868, 0, 4294967295, 0, 0)]) := sv_chunkR (S := [sm_196_11501b45, sm_197_7e2dd2ff, sm_195_99b5cf0a]) (cut := [19]) (cs := [(19, 123, 123, 0, [some (.inr (some 106)), some (.inr (some 33)), some (.inl (0, 4294967295, 0, 0, 0)), some (.inl (2147483660, 2147483660, 0, 0, 0))], [], [(1736705, 2147483661, 2147483688, 0, 0), (1753100, 0, 2147483663, 0, 0), (1785868, 0, 4294967295, 0, 0)])]) (ext := [tr_T13]) (sp := []) (N := 1000) tr_h (sv_cv sm_196_11501b45_ok (sv_cv sm_197_7e2dd2ff_ok (sv_cv sm_195_99b5cf0a_ok sv_nv))) (by decide +kernel) (sv_cpR tr_T13_ok sv_npR) _ List.mem_cons_self
set_option maxRecDepth 1000000 in
theorem tr_mi12 : sv_plR hs_Rs sg tr_s 2 (19, 124, 124, 0, [some (.inr (some 106)), some (.inr (some 33)), some (.inl (0, 4294967295, 0, 0, 0)), some (.inl (2147483660, 2147483660, 0, 0, 0))], [], [(1736705, 2147483661, 2147483688, 0, 0), (1753100, 2147483664, 2147483665, 0, 0), (1785868, 2147483648, 2147483653, 0, 0)]) := sv_chunkR (S := [sm_195_c94b3eaa, sm_197_7e2dd2ff]) (cut := [19]) (cs := [(19, 124, 124, 0, [some (.inr (some 106)), some (.inr (some 33)), some (.inl (0, 4294967295, 0, 0, 0)), some (.inl (2147483660, 2147483660, 0, 0, 0))], [], [(1736705, 2147483661, 2147483688, 0, 0), (1753100, 2147483664, 2147483665, 0, 0), (1785868, 2147483648, 2147483653, 0, 0)])]) (ext := [tr_T13]) (sp := []) (N := 1000) tr_h (sv_cv sm_195_c94b3eaa_ok (sv_cv sm_197_7e2dd2ff_ok sv_nv)) (by decide +kernel) (sv_cpR tr_T13_ok sv_npR) _ List.mem_cons_self
set_option maxRecDepth 1000000 in
theorem tr_hi12 : sv_plR hs_Rs sg tr_s 2 (19, 125, 125, 0, [some (.inr (some 106)), some (.inr (some 33)), some (.inl (0, 4294967295, 0, 0, 0)), some (.inl (2147483660, 2147483660, 0, 0, 0))], [], [(1736705, 2147483661, 2147483688, 0, 0), (1753100, 2147483666, 4294967295, 0, 0), (1785868, 0, 4294967295, 0, 0)]) := sv_chunkR (S := [sm_195_c92c744d, sm_197_7e2dd2ff]) (cut := [19]) (cs := [(19, 125, 125, 0, [some (.inr (some 106)), some (.inr (some 33)), some (.inl (0, 4294967295, 0, 0, 0)), some (.inl (2147483660, 2147483660, 0, 0, 0))], [], [(1736705, 2147483661, 2147483688, 0, 0), (1753100, 2147483666, 4294967295, 0, 0), (1785868, 0, 4294967295, 0, 0)])]) (ext := [tr_T13]) (sp := []) (N := 1000) tr_h (sv_cv sm_195_c92c744d_ok (sv_cv sm_197_7e2dd2ff_ok sv_nv)) (by decide +kernel) (sv_cpR tr_T13_ok sv_npR) _ List.mem_cons_self
def tr_T12 : sv_CS := (19, 121, 121, 0, [some (.inr (some 106)), some (.inr (some 33)), some (.inl (0, 4294967295, 0, 0, 0)), some (.inl (2147483660, 2147483660, 0, 0, 0))], [], [(1736705, 2147483648, 2147483688, 0, 0)])
theorem tr_T12_ok : sv_plR hs_Rs sg tr_s 2 tr_T12 := sv_splitR (ts := tr_ts 12 121) rfl (fun t ht => by
  rcases List.mem_cons.mp ht with rfl | ht
  · exact tr_x12
  rcases List.mem_cons.mp ht with rfl | ht
  · exact tr_lo12
  rcases List.mem_cons.mp ht with rfl | ht
  · exact tr_mi12
  rcases List.mem_cons.mp ht with rfl | ht
  · exact tr_hi12
  · cases ht) (fun w0 w hR hfr hG hf => tr_sp 12 121 (by decide) hR hfr hG)
set_option maxRecDepth 1000000 in
theorem tr_x11 : sv_plR hs_Rs sg tr_s 2 (19, 112, 112, 0, [some (.inr (some 106)), some (.inr (some 33)), some (.inl (0, 4294967295, 0, 0, 0)), some (.inl (2147483659, 2147483659, 0, 0, 0))], [], [(1736705, 2147483648, 2147483659, 0, 0)]) := sv_chunkR (S := [sm_196_11501b45]) (cut := [19]) (cs := [(19, 112, 112, 0, [some (.inr (some 106)), some (.inr (some 33)), some (.inl (0, 4294967295, 0, 0, 0)), some (.inl (2147483659, 2147483659, 0, 0, 0))], [], [(1736705, 2147483648, 2147483659, 0, 0)])]) (ext := []) (sp := []) (N := 1000) tr_h (sv_cv sm_196_11501b45_ok sv_nv) (by decide +kernel) sv_npR _ List.mem_cons_self
set_option maxRecDepth 1000000 in
theorem tr_lo11 : sv_plR hs_Rs sg tr_s 2 (19, 113, 113, 0, [some (.inr (some 106)), some (.inr (some 33)), some (.inl (0, 4294967295, 0, 0, 0)), some (.inl (2147483659, 2147483659, 0, 0, 0))], [], [(1736705, 2147483660, 2147483688, 0, 0), (1753099, 0, 2147483663, 0, 0), (1785867, 0, 4294967295, 0, 0)]) := sv_chunkR (S := [sm_196_11501b45, sm_197_7e2dd2ff, sm_195_4e412e60]) (cut := [19]) (cs := [(19, 113, 113, 0, [some (.inr (some 106)), some (.inr (some 33)), some (.inl (0, 4294967295, 0, 0, 0)), some (.inl (2147483659, 2147483659, 0, 0, 0))], [], [(1736705, 2147483660, 2147483688, 0, 0), (1753099, 0, 2147483663, 0, 0), (1785867, 0, 4294967295, 0, 0)])]) (ext := [tr_T12]) (sp := []) (N := 1000) tr_h (sv_cv sm_196_11501b45_ok (sv_cv sm_197_7e2dd2ff_ok (sv_cv sm_195_4e412e60_ok sv_nv))) (by decide +kernel) (sv_cpR tr_T12_ok sv_npR) _ List.mem_cons_self
set_option maxRecDepth 1000000 in
theorem tr_mi11 : sv_plR hs_Rs sg tr_s 2 (19, 114, 114, 0, [some (.inr (some 106)), some (.inr (some 33)), some (.inl (0, 4294967295, 0, 0, 0)), some (.inl (2147483659, 2147483659, 0, 0, 0))], [], [(1736705, 2147483660, 2147483688, 0, 0), (1753099, 2147483664, 2147483665, 0, 0), (1785867, 2147483648, 2147483653, 0, 0)]) := sv_chunkR (S := [sm_195_7a48bd2a, sm_197_7e2dd2ff]) (cut := [19]) (cs := [(19, 114, 114, 0, [some (.inr (some 106)), some (.inr (some 33)), some (.inl (0, 4294967295, 0, 0, 0)), some (.inl (2147483659, 2147483659, 0, 0, 0))], [], [(1736705, 2147483660, 2147483688, 0, 0), (1753099, 2147483664, 2147483665, 0, 0), (1785867, 2147483648, 2147483653, 0, 0)])]) (ext := [tr_T12]) (sp := []) (N := 1000) tr_h (sv_cv sm_195_7a48bd2a_ok (sv_cv sm_197_7e2dd2ff_ok sv_nv)) (by decide +kernel) (sv_cpR tr_T12_ok sv_npR) _ List.mem_cons_self
set_option maxRecDepth 1000000 in
theorem tr_hi11 : sv_plR hs_Rs sg tr_s 2 (19, 115, 115, 0, [some (.inr (some 106)), some (.inr (some 33)), some (.inl (0, 4294967295, 0, 0, 0)), some (.inl (2147483659, 2147483659, 0, 0, 0))], [], [(1736705, 2147483660, 2147483688, 0, 0), (1753099, 2147483666, 4294967295, 0, 0), (1785867, 0, 4294967295, 0, 0)]) := sv_chunkR (S := [sm_195_3123b7cf, sm_197_7e2dd2ff]) (cut := [19]) (cs := [(19, 115, 115, 0, [some (.inr (some 106)), some (.inr (some 33)), some (.inl (0, 4294967295, 0, 0, 0)), some (.inl (2147483659, 2147483659, 0, 0, 0))], [], [(1736705, 2147483660, 2147483688, 0, 0), (1753099, 2147483666, 4294967295, 0, 0), (1785867, 0, 4294967295, 0, 0)])]) (ext := [tr_T12]) (sp := []) (N := 1000) tr_h (sv_cv sm_195_3123b7cf_ok (sv_cv sm_197_7e2dd2ff_ok sv_nv)) (by decide +kernel) (sv_cpR tr_T12_ok sv_npR) _ List.mem_cons_self
def tr_T11 : sv_CS := (19, 111, 111, 0, [some (.inr (some 106)), some (.inr (some 33)), some (.inl (0, 4294967295, 0, 0, 0)), some (.inl (2147483659, 2147483659, 0, 0, 0))], [], [(1736705, 2147483648, 2147483688, 0, 0)])
theorem tr_T11_ok : sv_plR hs_Rs sg tr_s 2 tr_T11 := sv_splitR (ts := tr_ts 11 111) rfl (fun t ht => by
  rcases List.mem_cons.mp ht with rfl | ht
  · exact tr_x11
  rcases List.mem_cons.mp ht with rfl | ht
  · exact tr_lo11
  rcases List.mem_cons.mp ht with rfl | ht
  · exact tr_mi11
  rcases List.mem_cons.mp ht with rfl | ht
  · exact tr_hi11
  · cases ht) (fun w0 w hR hfr hG hf => tr_sp 11 111 (by decide) hR hfr hG)
set_option maxRecDepth 1000000 in
theorem tr_x10 : sv_plR hs_Rs sg tr_s 2 (19, 102, 102, 0, [some (.inr (some 106)), some (.inr (some 33)), some (.inl (0, 4294967295, 0, 0, 0)), some (.inl (2147483658, 2147483658, 0, 0, 0))], [], [(1736705, 2147483648, 2147483658, 0, 0)]) := sv_chunkR (S := [sm_196_11501b45]) (cut := [19]) (cs := [(19, 102, 102, 0, [some (.inr (some 106)), some (.inr (some 33)), some (.inl (0, 4294967295, 0, 0, 0)), some (.inl (2147483658, 2147483658, 0, 0, 0))], [], [(1736705, 2147483648, 2147483658, 0, 0)])]) (ext := []) (sp := []) (N := 1000) tr_h (sv_cv sm_196_11501b45_ok sv_nv) (by decide +kernel) sv_npR _ List.mem_cons_self
set_option maxRecDepth 1000000 in
theorem tr_lo10 : sv_plR hs_Rs sg tr_s 2 (19, 103, 103, 0, [some (.inr (some 106)), some (.inr (some 33)), some (.inl (0, 4294967295, 0, 0, 0)), some (.inl (2147483658, 2147483658, 0, 0, 0))], [], [(1736705, 2147483659, 2147483688, 0, 0), (1753098, 0, 2147483663, 0, 0), (1785866, 0, 4294967295, 0, 0)]) := sv_chunkR (S := [sm_196_11501b45, sm_197_7e2dd2ff, sm_195_287cda6d]) (cut := [19]) (cs := [(19, 103, 103, 0, [some (.inr (some 106)), some (.inr (some 33)), some (.inl (0, 4294967295, 0, 0, 0)), some (.inl (2147483658, 2147483658, 0, 0, 0))], [], [(1736705, 2147483659, 2147483688, 0, 0), (1753098, 0, 2147483663, 0, 0), (1785866, 0, 4294967295, 0, 0)])]) (ext := [tr_T11]) (sp := []) (N := 1000) tr_h (sv_cv sm_196_11501b45_ok (sv_cv sm_197_7e2dd2ff_ok (sv_cv sm_195_287cda6d_ok sv_nv))) (by decide +kernel) (sv_cpR tr_T11_ok sv_npR) _ List.mem_cons_self
set_option maxRecDepth 1000000 in
theorem tr_mi10 : sv_plR hs_Rs sg tr_s 2 (19, 104, 104, 0, [some (.inr (some 106)), some (.inr (some 33)), some (.inl (0, 4294967295, 0, 0, 0)), some (.inl (2147483658, 2147483658, 0, 0, 0))], [], [(1736705, 2147483659, 2147483688, 0, 0), (1753098, 2147483664, 2147483665, 0, 0), (1785866, 2147483648, 2147483653, 0, 0)]) := sv_chunkR (S := [sm_195_437c4ab2, sm_197_7e2dd2ff]) (cut := [19]) (cs := [(19, 104, 104, 0, [some (.inr (some 106)), some (.inr (some 33)), some (.inl (0, 4294967295, 0, 0, 0)), some (.inl (2147483658, 2147483658, 0, 0, 0))], [], [(1736705, 2147483659, 2147483688, 0, 0), (1753098, 2147483664, 2147483665, 0, 0), (1785866, 2147483648, 2147483653, 0, 0)])]) (ext := [tr_T11]) (sp := []) (N := 1000) tr_h (sv_cv sm_195_437c4ab2_ok (sv_cv sm_197_7e2dd2ff_ok sv_nv)) (by decide +kernel) (sv_cpR tr_T11_ok sv_npR) _ List.mem_cons_self
set_option maxRecDepth 1000000 in
theorem tr_hi10 : sv_plR hs_Rs sg tr_s 2 (19, 105, 105, 0, [some (.inr (some 106)), some (.inr (some 33)), some (.inl (0, 4294967295, 0, 0, 0)), some (.inl (2147483658, 2147483658, 0, 0, 0))], [], [(1736705, 2147483659, 2147483688, 0, 0), (1753098, 2147483666, 4294967295, 0, 0), (1785866, 0, 4294967295, 0, 0)]) := sv_chunkR (S := [sm_195_2d1188ff, sm_197_7e2dd2ff]) (cut := [19]) (cs := [(19, 105, 105, 0, [some (.inr (some 106)), some (.inr (some 33)), some (.inl (0, 4294967295, 0, 0, 0)), some (.inl (2147483658, 2147483658, 0, 0, 0))], [], [(1736705, 2147483659, 2147483688, 0, 0), (1753098, 2147483666, 4294967295, 0, 0), (1785866, 0, 4294967295, 0, 0)])]) (ext := [tr_T11]) (sp := []) (N := 1000) tr_h (sv_cv sm_195_2d1188ff_ok (sv_cv sm_197_7e2dd2ff_ok sv_nv)) (by decide +kernel) (sv_cpR tr_T11_ok sv_npR) _ List.mem_cons_self
def tr_T10 : sv_CS := (19, 101, 101, 0, [some (.inr (some 106)), some (.inr (some 33)), some (.inl (0, 4294967295, 0, 0, 0)), some (.inl (2147483658, 2147483658, 0, 0, 0))], [], [(1736705, 2147483648, 2147483688, 0, 0)])
theorem tr_T10_ok : sv_plR hs_Rs sg tr_s 2 tr_T10 := sv_splitR (ts := tr_ts 10 101) rfl (fun t ht => by
  rcases List.mem_cons.mp ht with rfl | ht
  · exact tr_x10
  rcases List.mem_cons.mp ht with rfl | ht
  · exact tr_lo10
  rcases List.mem_cons.mp ht with rfl | ht
  · exact tr_mi10
  rcases List.mem_cons.mp ht with rfl | ht
  · exact tr_hi10
  · cases ht) (fun w0 w hR hfr hG hf => tr_sp 10 101 (by decide) hR hfr hG)
set_option maxRecDepth 1000000 in
theorem tr_x9 : sv_plR hs_Rs sg tr_s 2 (19, 92, 92, 0, [some (.inr (some 106)), some (.inr (some 33)), some (.inl (0, 4294967295, 0, 0, 0)), some (.inl (2147483657, 2147483657, 0, 0, 0))], [], [(1736705, 2147483648, 2147483657, 0, 0)]) := sv_chunkR (S := [sm_196_11501b45]) (cut := [19]) (cs := [(19, 92, 92, 0, [some (.inr (some 106)), some (.inr (some 33)), some (.inl (0, 4294967295, 0, 0, 0)), some (.inl (2147483657, 2147483657, 0, 0, 0))], [], [(1736705, 2147483648, 2147483657, 0, 0)])]) (ext := []) (sp := []) (N := 1000) tr_h (sv_cv sm_196_11501b45_ok sv_nv) (by decide +kernel) sv_npR _ List.mem_cons_self
set_option maxRecDepth 1000000 in
theorem tr_lo9 : sv_plR hs_Rs sg tr_s 2 (19, 93, 93, 0, [some (.inr (some 106)), some (.inr (some 33)), some (.inl (0, 4294967295, 0, 0, 0)), some (.inl (2147483657, 2147483657, 0, 0, 0))], [], [(1736705, 2147483658, 2147483688, 0, 0), (1753097, 0, 2147483663, 0, 0), (1785865, 0, 4294967295, 0, 0)]) := sv_chunkR (S := [sm_196_11501b45, sm_197_7e2dd2ff, sm_195_4dc9a079]) (cut := [19]) (cs := [(19, 93, 93, 0, [some (.inr (some 106)), some (.inr (some 33)), some (.inl (0, 4294967295, 0, 0, 0)), some (.inl (2147483657, 2147483657, 0, 0, 0))], [], [(1736705, 2147483658, 2147483688, 0, 0), (1753097, 0, 2147483663, 0, 0), (1785865, 0, 4294967295, 0, 0)])]) (ext := [tr_T10]) (sp := []) (N := 1000) tr_h (sv_cv sm_196_11501b45_ok (sv_cv sm_197_7e2dd2ff_ok (sv_cv sm_195_4dc9a079_ok sv_nv))) (by decide +kernel) (sv_cpR tr_T10_ok sv_npR) _ List.mem_cons_self
set_option maxRecDepth 1000000 in
theorem tr_mi9 : sv_plR hs_Rs sg tr_s 2 (19, 94, 94, 0, [some (.inr (some 106)), some (.inr (some 33)), some (.inl (0, 4294967295, 0, 0, 0)), some (.inl (2147483657, 2147483657, 0, 0, 0))], [], [(1736705, 2147483658, 2147483688, 0, 0), (1753097, 2147483664, 2147483665, 0, 0), (1785865, 2147483648, 2147483653, 0, 0)]) := sv_chunkR (S := [sm_195_4cd1cd3a, sm_197_7e2dd2ff]) (cut := [19]) (cs := [(19, 94, 94, 0, [some (.inr (some 106)), some (.inr (some 33)), some (.inl (0, 4294967295, 0, 0, 0)), some (.inl (2147483657, 2147483657, 0, 0, 0))], [], [(1736705, 2147483658, 2147483688, 0, 0), (1753097, 2147483664, 2147483665, 0, 0), (1785865, 2147483648, 2147483653, 0, 0)])]) (ext := [tr_T10]) (sp := []) (N := 1000) tr_h (sv_cv sm_195_4cd1cd3a_ok (sv_cv sm_197_7e2dd2ff_ok sv_nv)) (by decide +kernel) (sv_cpR tr_T10_ok sv_npR) _ List.mem_cons_self
set_option maxRecDepth 1000000 in
theorem tr_hi9 : sv_plR hs_Rs sg tr_s 2 (19, 95, 95, 0, [some (.inr (some 106)), some (.inr (some 33)), some (.inl (0, 4294967295, 0, 0, 0)), some (.inl (2147483657, 2147483657, 0, 0, 0))], [], [(1736705, 2147483658, 2147483688, 0, 0), (1753097, 2147483666, 4294967295, 0, 0), (1785865, 0, 4294967295, 0, 0)]) := sv_chunkR (S := [sm_195_9366d073, sm_197_7e2dd2ff]) (cut := [19]) (cs := [(19, 95, 95, 0, [some (.inr (some 106)), some (.inr (some 33)), some (.inl (0, 4294967295, 0, 0, 0)), some (.inl (2147483657, 2147483657, 0, 0, 0))], [], [(1736705, 2147483658, 2147483688, 0, 0), (1753097, 2147483666, 4294967295, 0, 0), (1785865, 0, 4294967295, 0, 0)])]) (ext := [tr_T10]) (sp := []) (N := 1000) tr_h (sv_cv sm_195_9366d073_ok (sv_cv sm_197_7e2dd2ff_ok sv_nv)) (by decide +kernel) (sv_cpR tr_T10_ok sv_npR) _ List.mem_cons_self
def tr_T9 : sv_CS := (19, 91, 91, 0, [some (.inr (some 106)), some (.inr (some 33)), some (.inl (0, 4294967295, 0, 0, 0)), some (.inl (2147483657, 2147483657, 0, 0, 0))], [], [(1736705, 2147483648, 2147483688, 0, 0)])
theorem tr_T9_ok : sv_plR hs_Rs sg tr_s 2 tr_T9 := sv_splitR (ts := tr_ts 9 91) rfl (fun t ht => by
  rcases List.mem_cons.mp ht with rfl | ht
  · exact tr_x9
  rcases List.mem_cons.mp ht with rfl | ht
  · exact tr_lo9
  rcases List.mem_cons.mp ht with rfl | ht
  · exact tr_mi9
  rcases List.mem_cons.mp ht with rfl | ht
  · exact tr_hi9
  · cases ht) (fun w0 w hR hfr hG hf => tr_sp 9 91 (by decide) hR hfr hG)
set_option maxRecDepth 1000000 in
theorem tr_x8 : sv_plR hs_Rs sg tr_s 2 (19, 82, 82, 0, [some (.inr (some 106)), some (.inr (some 33)), some (.inl (0, 4294967295, 0, 0, 0)), some (.inl (2147483656, 2147483656, 0, 0, 0))], [], [(1736705, 2147483648, 2147483656, 0, 0)]) := sv_chunkR (S := [sm_196_11501b45]) (cut := [19]) (cs := [(19, 82, 82, 0, [some (.inr (some 106)), some (.inr (some 33)), some (.inl (0, 4294967295, 0, 0, 0)), some (.inl (2147483656, 2147483656, 0, 0, 0))], [], [(1736705, 2147483648, 2147483656, 0, 0)])]) (ext := []) (sp := []) (N := 1000) tr_h (sv_cv sm_196_11501b45_ok sv_nv) (by decide +kernel) sv_npR _ List.mem_cons_self
set_option maxRecDepth 1000000 in
theorem tr_lo8 : sv_plR hs_Rs sg tr_s 2 (19, 83, 83, 0, [some (.inr (some 106)), some (.inr (some 33)), some (.inl (0, 4294967295, 0, 0, 0)), some (.inl (2147483656, 2147483656, 0, 0, 0))], [], [(1736705, 2147483657, 2147483688, 0, 0), (1753096, 0, 2147483663, 0, 0), (1785864, 0, 4294967295, 0, 0)]) := sv_chunkR (S := [sm_196_11501b45, sm_197_7e2dd2ff, sm_195_2bf45474]) (cut := [19]) (cs := [(19, 83, 83, 0, [some (.inr (some 106)), some (.inr (some 33)), some (.inl (0, 4294967295, 0, 0, 0)), some (.inl (2147483656, 2147483656, 0, 0, 0))], [], [(1736705, 2147483657, 2147483688, 0, 0), (1753096, 0, 2147483663, 0, 0), (1785864, 0, 4294967295, 0, 0)])]) (ext := [tr_T9]) (sp := []) (N := 1000) tr_h (sv_cv sm_196_11501b45_ok (sv_cv sm_197_7e2dd2ff_ok (sv_cv sm_195_2bf45474_ok sv_nv))) (by decide +kernel) (sv_cpR tr_T9_ok sv_npR) _ List.mem_cons_self
set_option maxRecDepth 1000000 in
theorem tr_mi8 : sv_plR hs_Rs sg tr_s 2 (19, 84, 84, 0, [some (.inr (some 106)), some (.inr (some 33)), some (.inl (0, 4294967295, 0, 0, 0)), some (.inl (2147483656, 2147483656, 0, 0, 0))], [], [(1736705, 2147483657, 2147483688, 0, 0), (1753096, 2147483664, 2147483665, 0, 0), (1785864, 2147483648, 2147483653, 0, 0)]) := sv_chunkR (S := [sm_195_75e53aa2, sm_197_7e2dd2ff]) (cut := [19]) (cs := [(19, 84, 84, 0, [some (.inr (some 106)), some (.inr (some 33)), some (.inl (0, 4294967295, 0, 0, 0)), some (.inl (2147483656, 2147483656, 0, 0, 0))], [], [(1736705, 2147483657, 2147483688, 0, 0), (1753096, 2147483664, 2147483665, 0, 0), (1785864, 2147483648, 2147483653, 0, 0)])]) (ext := [tr_T9]) (sp := []) (N := 1000) tr_h (sv_cv sm_195_75e53aa2_ok (sv_cv sm_197_7e2dd2ff_ok sv_nv)) (by decide +kernel) (sv_cpR tr_T9_ok sv_npR) _ List.mem_cons_self
set_option maxRecDepth 1000000 in
theorem tr_hi8 : sv_plR hs_Rs sg tr_s 2 (19, 85, 85, 0, [some (.inr (some 106)), some (.inr (some 33)), some (.inl (0, 4294967295, 0, 0, 0)), some (.inl (2147483656, 2147483656, 0, 0, 0))], [], [(1736705, 2147483657, 2147483688, 0, 0), (1753096, 2147483666, 4294967295, 0, 0), (1785864, 0, 4294967295, 0, 0)]) := sv_chunkR (S := [sm_195_8f54ef43, sm_197_7e2dd2ff]) (cut := [19]) (cs := [(19, 85, 85, 0, [some (.inr (some 106)), some (.inr (some 33)), some (.inl (0, 4294967295, 0, 0, 0)), some (.inl (2147483656, 2147483656, 0, 0, 0))], [], [(1736705, 2147483657, 2147483688, 0, 0), (1753096, 2147483666, 4294967295, 0, 0), (1785864, 0, 4294967295, 0, 0)])]) (ext := [tr_T9]) (sp := []) (N := 1000) tr_h (sv_cv sm_195_8f54ef43_ok (sv_cv sm_197_7e2dd2ff_ok sv_nv)) (by decide +kernel) (sv_cpR tr_T9_ok sv_npR) _ List.mem_cons_self
def tr_T8 : sv_CS := (19, 81, 81, 0, [some (.inr (some 106)), some (.inr (some 33)), some (.inl (0, 4294967295, 0, 0, 0)), some (.inl (2147483656, 2147483656, 0, 0, 0))], [], [(1736705, 2147483648, 2147483688, 0, 0)])
theorem tr_T8_ok : sv_plR hs_Rs sg tr_s 2 tr_T8 := sv_splitR (ts := tr_ts 8 81) rfl (fun t ht => by
  rcases List.mem_cons.mp ht with rfl | ht
  · exact tr_x8
  rcases List.mem_cons.mp ht with rfl | ht
  · exact tr_lo8
  rcases List.mem_cons.mp ht with rfl | ht
  · exact tr_mi8
  rcases List.mem_cons.mp ht with rfl | ht
  · exact tr_hi8
  · cases ht) (fun w0 w hR hfr hG hf => tr_sp 8 81 (by decide) hR hfr hG)
set_option maxRecDepth 1000000 in
theorem tr_x7 : sv_plR hs_Rs sg tr_s 2 (19, 72, 72, 0, [some (.inr (some 106)), some (.inr (some 33)), some (.inl (0, 4294967295, 0, 0, 0)), some (.inl (2147483655, 2147483655, 0, 0, 0))], [], [(1736705, 2147483648, 2147483655, 0, 0)]) := sv_chunkR (S := [sm_196_11501b45]) (cut := [19]) (cs := [(19, 72, 72, 0, [some (.inr (some 106)), some (.inr (some 33)), some (.inl (0, 4294967295, 0, 0, 0)), some (.inl (2147483655, 2147483655, 0, 0, 0))], [], [(1736705, 2147483648, 2147483655, 0, 0)])]) (ext := []) (sp := []) (N := 1000) tr_h (sv_cv sm_196_11501b45_ok sv_nv) (by decide +kernel) sv_npR _ List.mem_cons_self
set_option maxRecDepth 1000000 in
theorem tr_lo7 : sv_plR hs_Rs sg tr_s 2 (19, 73, 73, 0, [some (.inr (some 106)), some (.inr (some 33)), some (.inl (0, 4294967295, 0, 0, 0)), some (.inl (2147483655, 2147483655, 0, 0, 0))], [], [(1736705, 2147483656, 2147483688, 0, 0), (1753095, 0, 2147483663, 0, 0), (1785863, 0, 4294967295, 0, 0)]) := sv_chunkR (S := [sm_196_11501b45, sm_197_7e2dd2ff, sm_195_8765bc17]) (cut := [19]) (cs := [(19, 73, 73, 0, [some (.inr (some 106)), some (.inr (some 33)), some (.inl (0, 4294967295, 0, 0, 0)), some (.inl (2147483655, 2147483655, 0, 0, 0))], [], [(1736705, 2147483656, 2147483688, 0, 0), (1753095, 0, 2147483663, 0, 0), (1785863, 0, 4294967295, 0, 0)])]) (ext := [tr_T8]) (sp := []) (N := 1000) tr_h (sv_cv sm_196_11501b45_ok (sv_cv sm_197_7e2dd2ff_ok (sv_cv sm_195_8765bc17_ok sv_nv))) (by decide +kernel) (sv_cpR tr_T8_ok sv_npR) _ List.mem_cons_self
set_option maxRecDepth 1000000 in
theorem tr_mi7 : sv_plR hs_Rs sg tr_s 2 (19, 74, 74, 0, [some (.inr (some 106)), some (.inr (some 33)), some (.inl (0, 4294967295, 0, 0, 0)), some (.inl (2147483655, 2147483655, 0, 0, 0))], [], [(1736705, 2147483656, 2147483688, 0, 0), (1753095, 2147483664, 2147483665, 0, 0), (1785863, 2147483648, 2147483653, 0, 0)]) := sv_chunkR (S := [sm_195_50eb74b5, sm_197_7e2dd2ff]) (cut := [19]) (cs := [(19, 74, 74, 0, [some (.inr (some 106)), some (.inr (some 33)), some (.inl (0, 4294967295, 0, 0, 0)), some (.inl (2147483655, 2147483655, 0, 0, 0))], [], [(1736705, 2147483656, 2147483688, 0, 0), (1753095, 2147483664, 2147483665, 0, 0), (1785863, 2147483648, 2147483653, 0, 0)])]) (ext := [tr_T8]) (sp := []) (N := 1000) tr_h (sv_cv sm_195_50eb74b5_ok (sv_cv sm_197_7e2dd2ff_ok sv_nv)) (by decide +kernel) (sv_cpR tr_T8_ok sv_npR) _ List.mem_cons_self
set_option maxRecDepth 1000000 in
theorem tr_hi7 : sv_plR hs_Rs sg tr_s 2 (19, 75, 75, 0, [some (.inr (some 106)), some (.inr (some 33)), some (.inl (0, 4294967295, 0, 0, 0)), some (.inl (2147483655, 2147483655, 0, 0, 0))], [], [(1736705, 2147483656, 2147483688, 0, 0), (1753095, 2147483666, 4294967295, 0, 0), (1785863, 0, 4294967295, 0, 0)]) := sv_chunkR (S := [sm_195_add55a67, sm_197_7e2dd2ff]) (cut := [19]) (cs := [(19, 75, 75, 0, [some (.inr (some 106)), some (.inr (some 33)), some (.inl (0, 4294967295, 0, 0, 0)), some (.inl (2147483655, 2147483655, 0, 0, 0))], [], [(1736705, 2147483656, 2147483688, 0, 0), (1753095, 2147483666, 4294967295, 0, 0), (1785863, 0, 4294967295, 0, 0)])]) (ext := [tr_T8]) (sp := []) (N := 1000) tr_h (sv_cv sm_195_add55a67_ok (sv_cv sm_197_7e2dd2ff_ok sv_nv)) (by decide +kernel) (sv_cpR tr_T8_ok sv_npR) _ List.mem_cons_self
def tr_T7 : sv_CS := (19, 71, 71, 0, [some (.inr (some 106)), some (.inr (some 33)), some (.inl (0, 4294967295, 0, 0, 0)), some (.inl (2147483655, 2147483655, 0, 0, 0))], [], [(1736705, 2147483648, 2147483688, 0, 0)])
theorem tr_T7_ok : sv_plR hs_Rs sg tr_s 2 tr_T7 := sv_splitR (ts := tr_ts 7 71) rfl (fun t ht => by
  rcases List.mem_cons.mp ht with rfl | ht
  · exact tr_x7
  rcases List.mem_cons.mp ht with rfl | ht
  · exact tr_lo7
  rcases List.mem_cons.mp ht with rfl | ht
  · exact tr_mi7
  rcases List.mem_cons.mp ht with rfl | ht
  · exact tr_hi7
  · cases ht) (fun w0 w hR hfr hG hf => tr_sp 7 71 (by decide) hR hfr hG)
set_option maxRecDepth 1000000 in
theorem tr_x6 : sv_plR hs_Rs sg tr_s 2 (19, 62, 62, 0, [some (.inr (some 106)), some (.inr (some 33)), some (.inl (0, 4294967295, 0, 0, 0)), some (.inl (2147483654, 2147483654, 0, 0, 0))], [], [(1736705, 2147483648, 2147483654, 0, 0)]) := sv_chunkR (S := [sm_196_11501b45]) (cut := [19]) (cs := [(19, 62, 62, 0, [some (.inr (some 106)), some (.inr (some 33)), some (.inl (0, 4294967295, 0, 0, 0)), some (.inl (2147483654, 2147483654, 0, 0, 0))], [], [(1736705, 2147483648, 2147483654, 0, 0)])]) (ext := []) (sp := []) (N := 1000) tr_h (sv_cv sm_196_11501b45_ok sv_nv) (by decide +kernel) sv_npR _ List.mem_cons_self
set_option maxRecDepth 1000000 in
theorem tr_lo6 : sv_plR hs_Rs sg tr_s 2 (19, 63, 63, 0, [some (.inr (some 106)), some (.inr (some 33)), some (.inl (0, 4294967295, 0, 0, 0)), some (.inl (2147483654, 2147483654, 0, 0, 0))], [], [(1736705, 2147483655, 2147483688, 0, 0), (1753094, 0, 2147483663, 0, 0), (1785862, 0, 4294967295, 0, 0)]) := sv_chunkR (S := [sm_196_11501b45, sm_197_7e2dd2ff, sm_195_e158481a]) (cut := [19]) (cs := [(19, 63, 63, 0, [some (.inr (some 106)), some (.inr (some 33)), some (.inl (0, 4294967295, 0, 0, 0)), some (.inl (2147483654, 2147483654, 0, 0, 0))], [], [(1736705, 2147483655, 2147483688, 0, 0), (1753094, 0, 2147483663, 0, 0), (1785862, 0, 4294967295, 0, 0)])]) (ext := [tr_T7]) (sp := []) (N := 1000) tr_h (sv_cv sm_196_11501b45_ok (sv_cv sm_197_7e2dd2ff_ok (sv_cv sm_195_e158481a_ok sv_nv))) (by decide +kernel) (sv_cpR tr_T7_ok sv_npR) _ List.mem_cons_self
set_option maxRecDepth 1000000 in
theorem tr_mi6 : sv_plR hs_Rs sg tr_s 2 (19, 64, 64, 0, [some (.inr (some 106)), some (.inr (some 33)), some (.inl (0, 4294967295, 0, 0, 0)), some (.inl (2147483654, 2147483654, 0, 0, 0))], [], [(1736705, 2147483655, 2147483688, 0, 0), (1753094, 2147483664, 2147483665, 0, 0), (1785862, 2147483648, 2147483653, 0, 0)]) := sv_chunkR (S := [sm_195_69df832d, sm_197_7e2dd2ff]) (cut := [19]) (cs := [(19, 64, 64, 0, [some (.inr (some 106)), some (.inr (some 33)), some (.inl (0, 4294967295, 0, 0, 0)), some (.inl (2147483654, 2147483654, 0, 0, 0))], [], [(1736705, 2147483655, 2147483688, 0, 0), (1753094, 2147483664, 2147483665, 0, 0), (1785862, 2147483648, 2147483653, 0, 0)])]) (ext := [tr_T7]) (sp := []) (N := 1000) tr_h (sv_cv sm_195_69df832d_ok (sv_cv sm_197_7e2dd2ff_ok sv_nv)) (by decide +kernel) (sv_cpR tr_T7_ok sv_npR) _ List.mem_cons_self
set_option maxRecDepth 1000000 in
theorem tr_hi6 : sv_plR hs_Rs sg tr_s 2 (19, 65, 65, 0, [some (.inr (some 106)), some (.inr (some 33)), some (.inl (0, 4294967295, 0, 0, 0)), some (.inl (2147483654, 2147483654, 0, 0, 0))], [], [(1736705, 2147483655, 2147483688, 0, 0), (1753094, 2147483666, 4294967295, 0, 0), (1785862, 0, 4294967295, 0, 0)]) := sv_chunkR (S := [sm_195_b1e76557, sm_197_7e2dd2ff]) (cut := [19]) (cs := [(19, 65, 65, 0, [some (.inr (some 106)), some (.inr (some 33)), some (.inl (0, 4294967295, 0, 0, 0)), some (.inl (2147483654, 2147483654, 0, 0, 0))], [], [(1736705, 2147483655, 2147483688, 0, 0), (1753094, 2147483666, 4294967295, 0, 0), (1785862, 0, 4294967295, 0, 0)])]) (ext := [tr_T7]) (sp := []) (N := 1000) tr_h (sv_cv sm_195_b1e76557_ok (sv_cv sm_197_7e2dd2ff_ok sv_nv)) (by decide +kernel) (sv_cpR tr_T7_ok sv_npR) _ List.mem_cons_self
def tr_T6 : sv_CS := (19, 61, 61, 0, [some (.inr (some 106)), some (.inr (some 33)), some (.inl (0, 4294967295, 0, 0, 0)), some (.inl (2147483654, 2147483654, 0, 0, 0))], [], [(1736705, 2147483648, 2147483688, 0, 0)])
theorem tr_T6_ok : sv_plR hs_Rs sg tr_s 2 tr_T6 := sv_splitR (ts := tr_ts 6 61) rfl (fun t ht => by
  rcases List.mem_cons.mp ht with rfl | ht
  · exact tr_x6
  rcases List.mem_cons.mp ht with rfl | ht
  · exact tr_lo6
  rcases List.mem_cons.mp ht with rfl | ht
  · exact tr_mi6
  rcases List.mem_cons.mp ht with rfl | ht
  · exact tr_hi6
  · cases ht) (fun w0 w hR hfr hG hf => tr_sp 6 61 (by decide) hR hfr hG)
set_option maxRecDepth 1000000 in
theorem tr_x5 : sv_plR hs_Rs sg tr_s 2 (19, 52, 52, 0, [some (.inr (some 106)), some (.inr (some 33)), some (.inl (0, 4294967295, 0, 0, 0)), some (.inl (2147483653, 2147483653, 0, 0, 0))], [], [(1736705, 2147483648, 2147483653, 0, 0)]) := sv_chunkR (S := [sm_196_11501b45]) (cut := [19]) (cs := [(19, 52, 52, 0, [some (.inr (some 106)), some (.inr (some 33)), some (.inl (0, 4294967295, 0, 0, 0)), some (.inl (2147483653, 2147483653, 0, 0, 0))], [], [(1736705, 2147483648, 2147483653, 0, 0)])]) (ext := []) (sp := []) (N := 1000) tr_h (sv_cv sm_196_11501b45_ok sv_nv) (by decide +kernel) sv_npR _ List.mem_cons_self
set_option maxRecDepth 1000000 in
theorem tr_lo5 : sv_plR hs_Rs sg tr_s 2 (19, 53, 53, 0, [some (.inr (some 106)), some (.inr (some 33)), some (.inl (0, 4294967295, 0, 0, 0)), some (.inl (2147483653, 2147483653, 0, 0, 0))], [], [(1736705, 2147483654, 2147483688, 0, 0), (1753093, 0, 2147483663, 0, 0), (1785861, 0, 4294967295, 0, 0)]) := sv_chunkR (S := [sm_196_11501b45, sm_197_7e2dd2ff, sm_195_0e4f760c]) (cut := [19]) (cs := [(19, 53, 53, 0, [some (.inr (some 106)), some (.inr (some 33)), some (.inl (0, 4294967295, 0, 0, 0)), some (.inl (2147483653, 2147483653, 0, 0, 0))], [], [(1736705, 2147483654, 2147483688, 0, 0), (1753093, 0, 2147483663, 0, 0), (1785861, 0, 4294967295, 0, 0)])]) (ext := [tr_T6]) (sp := []) (N := 1000) tr_h (sv_cv sm_196_11501b45_ok (sv_cv sm_197_7e2dd2ff_ok (sv_cv sm_195_0e4f760c_ok sv_nv))) (by decide +kernel) (sv_cpR tr_T6_ok sv_npR) _ List.mem_cons_self
set_option maxRecDepth 1000000 in
theorem tr_mi5 : sv_plR hs_Rs sg tr_s 2 (19, 54, 54, 0, [some (.inr (some 106)), some (.inr (some 33)), some (.inl (0, 4294967295, 0, 0, 0)), some (.inl (2147483653, 2147483653, 0, 0, 0))], [], [(1736705, 2147483654, 2147483688, 0, 0), (1753093, 2147483664, 2147483665, 0, 0), (1785861, 2147483648, 2147483653, 0, 0)]) := sv_chunkR (S := [sm_195_a802135a, sm_197_7e2dd2ff]) (cut := [19]) (cs := [(19, 54, 54, 0, [some (.inr (some 106)), some (.inr (some 33)), some (.inl (0, 4294967295, 0, 0, 0)), some (.inl (2147483653, 2147483653, 0, 0, 0))], [], [(1736705, 2147483654, 2147483688, 0, 0), (1753093, 2147483664, 2147483665, 0, 0), (1785861, 2147483648, 2147483653, 0, 0)])]) (ext := [tr_T6]) (sp := []) (N := 1000) tr_h (sv_cv sm_195_a802135a_ok (sv_cv sm_197_7e2dd2ff_ok sv_nv)) (by decide +kernel) (sv_cpR tr_T6_ok sv_npR) _ List.mem_cons_self
set_option maxRecDepth 1000000 in
theorem tr_hi5 : sv_plR hs_Rs sg tr_s 2 (19, 55, 55, 0, [some (.inr (some 106)), some (.inr (some 33)), some (.inl (0, 4294967295, 0, 0, 0)), some (.inl (2147483653, 2147483653, 0, 0, 0))], [], [(1736705, 2147483654, 2147483688, 0, 0), (1753093, 2147483666, 4294967295, 0, 0), (1785861, 0, 4294967295, 0, 0)]) := sv_chunkR (S := [sm_195_e3ae2cb3, sm_197_7e2dd2ff]) (cut := [19]) (cs := [(19, 55, 55, 0, [some (.inr (some 106)), some (.inr (some 33)), some (.inl (0, 4294967295, 0, 0, 0)), some (.inl (2147483653, 2147483653, 0, 0, 0))], [], [(1736705, 2147483654, 2147483688, 0, 0), (1753093, 2147483666, 4294967295, 0, 0), (1785861, 0, 4294967295, 0, 0)])]) (ext := [tr_T6]) (sp := []) (N := 1000) tr_h (sv_cv sm_195_e3ae2cb3_ok (sv_cv sm_197_7e2dd2ff_ok sv_nv)) (by decide +kernel) (sv_cpR tr_T6_ok sv_npR) _ List.mem_cons_self
def tr_T5 : sv_CS := (19, 51, 51, 0, [some (.inr (some 106)), some (.inr (some 33)), some (.inl (0, 4294967295, 0, 0, 0)), some (.inl (2147483653, 2147483653, 0, 0, 0))], [], [(1736705, 2147483648, 2147483688, 0, 0)])
theorem tr_T5_ok : sv_plR hs_Rs sg tr_s 2 tr_T5 := sv_splitR (ts := tr_ts 5 51) rfl (fun t ht => by
  rcases List.mem_cons.mp ht with rfl | ht
  · exact tr_x5
  rcases List.mem_cons.mp ht with rfl | ht
  · exact tr_lo5
  rcases List.mem_cons.mp ht with rfl | ht
  · exact tr_mi5
  rcases List.mem_cons.mp ht with rfl | ht
  · exact tr_hi5
  · cases ht) (fun w0 w hR hfr hG hf => tr_sp 5 51 (by decide) hR hfr hG)
set_option maxRecDepth 1000000 in
theorem tr_x4 : sv_plR hs_Rs sg tr_s 2 (19, 42, 42, 0, [some (.inr (some 106)), some (.inr (some 33)), some (.inl (0, 4294967295, 0, 0, 0)), some (.inl (2147483652, 2147483652, 0, 0, 0))], [], [(1736705, 2147483648, 2147483652, 0, 0)]) := sv_chunkR (S := [sm_196_11501b45]) (cut := [19]) (cs := [(19, 42, 42, 0, [some (.inr (some 106)), some (.inr (some 33)), some (.inl (0, 4294967295, 0, 0, 0)), some (.inl (2147483652, 2147483652, 0, 0, 0))], [], [(1736705, 2147483648, 2147483652, 0, 0)])]) (ext := []) (sp := []) (N := 1000) tr_h (sv_cv sm_196_11501b45_ok sv_nv) (by decide +kernel) sv_npR _ List.mem_cons_self
set_option maxRecDepth 1000000 in
theorem tr_lo4 : sv_plR hs_Rs sg tr_s 2 (19, 43, 43, 0, [some (.inr (some 106)), some (.inr (some 33)), some (.inl (0, 4294967295, 0, 0, 0)), some (.inl (2147483652, 2147483652, 0, 0, 0))], [], [(1736705, 2147483653, 2147483688, 0, 0), (1753092, 0, 2147483663, 0, 0), (1785860, 0, 4294967295, 0, 0)]) := sv_chunkR (S := [sm_196_11501b45, sm_197_7e2dd2ff, sm_195_68728201]) (cut := [19]) (cs := [(19, 43, 43, 0, [some (.inr (some 106)), some (.inr (some 33)), some (.inl (0, 4294967295, 0, 0, 0)), some (.inl (2147483652, 2147483652, 0, 0, 0))], [], [(1736705, 2147483653, 2147483688, 0, 0), (1753092, 0, 2147483663, 0, 0), (1785860, 0, 4294967295, 0, 0)])]) (ext := [tr_T5]) (sp := []) (N := 1000) tr_h (sv_cv sm_196_11501b45_ok (sv_cv sm_197_7e2dd2ff_ok (sv_cv sm_195_68728201_ok sv_nv))) (by decide +kernel) (sv_cpR tr_T5_ok sv_npR) _ List.mem_cons_self
set_option maxRecDepth 1000000 in
theorem tr_mi4 : sv_plR hs_Rs sg tr_s 2 (19, 44, 44, 0, [some (.inr (some 106)), some (.inr (some 33)), some (.inl (0, 4294967295, 0, 0, 0)), some (.inl (2147483652, 2147483652, 0, 0, 0))], [], [(1736705, 2147483653, 2147483688, 0, 0), (1753092, 2147483664, 2147483665, 0, 0), (1785860, 2147483648, 2147483653, 0, 0)]) := sv_chunkR (S := [sm_195_9136e4c2, sm_197_7e2dd2ff]) (cut := [19]) (cs := [(19, 44, 44, 0, [some (.inr (some 106)), some (.inr (some 33)), some (.inl (0, 4294967295, 0, 0, 0)), some (.inl (2147483652, 2147483652, 0, 0, 0))], [], [(1736705, 2147483653, 2147483688, 0, 0), (1753092, 2147483664, 2147483665, 0, 0), (1785860, 2147483648, 2147483653, 0, 0)])]) (ext := [tr_T5]) (sp := []) (N := 1000) tr_h (sv_cv sm_195_9136e4c2_ok (sv_cv sm_197_7e2dd2ff_ok sv_nv)) (by decide +kernel) (sv_cpR tr_T5_ok sv_npR) _ List.mem_cons_self
set_option maxRecDepth 1000000 in
theorem tr_hi4 : sv_plR hs_Rs sg tr_s 2 (19, 45, 45, 0, [some (.inr (some 106)), some (.inr (some 33)), some (.inl (0, 4294967295, 0, 0, 0)), some (.inl (2147483652, 2147483652, 0, 0, 0))], [], [(1736705, 2147483653, 2147483688, 0, 0), (1753092, 2147483666, 4294967295, 0, 0), (1785860, 0, 4294967295, 0, 0)]) := sv_chunkR (S := [sm_195_ff9c1383, sm_197_7e2dd2ff]) (cut := [19]) (cs := [(19, 45, 45, 0, [some (.inr (some 106)), some (.inr (some 33)), some (.inl (0, 4294967295, 0, 0, 0)), some (.inl (2147483652, 2147483652, 0, 0, 0))], [], [(1736705, 2147483653, 2147483688, 0, 0), (1753092, 2147483666, 4294967295, 0, 0), (1785860, 0, 4294967295, 0, 0)])]) (ext := [tr_T5]) (sp := []) (N := 1000) tr_h (sv_cv sm_195_ff9c1383_ok (sv_cv sm_197_7e2dd2ff_ok sv_nv)) (by decide +kernel) (sv_cpR tr_T5_ok sv_npR) _ List.mem_cons_self
def tr_T4 : sv_CS := (19, 41, 41, 0, [some (.inr (some 106)), some (.inr (some 33)), some (.inl (0, 4294967295, 0, 0, 0)), some (.inl (2147483652, 2147483652, 0, 0, 0))], [], [(1736705, 2147483648, 2147483688, 0, 0)])
theorem tr_T4_ok : sv_plR hs_Rs sg tr_s 2 tr_T4 := sv_splitR (ts := tr_ts 4 41) rfl (fun t ht => by
  rcases List.mem_cons.mp ht with rfl | ht
  · exact tr_x4
  rcases List.mem_cons.mp ht with rfl | ht
  · exact tr_lo4
  rcases List.mem_cons.mp ht with rfl | ht
  · exact tr_mi4
  rcases List.mem_cons.mp ht with rfl | ht
  · exact tr_hi4
  · cases ht) (fun w0 w hR hfr hG hf => tr_sp 4 41 (by decide) hR hfr hG)
set_option maxRecDepth 1000000 in
theorem tr_x3 : sv_plR hs_Rs sg tr_s 2 (19, 32, 32, 0, [some (.inr (some 106)), some (.inr (some 33)), some (.inl (0, 4294967295, 0, 0, 0)), some (.inl (2147483651, 2147483651, 0, 0, 0))], [], [(1736705, 2147483648, 2147483651, 0, 0)]) := sv_chunkR (S := [sm_196_11501b45]) (cut := [19]) (cs := [(19, 32, 32, 0, [some (.inr (some 106)), some (.inr (some 33)), some (.inl (0, 4294967295, 0, 0, 0)), some (.inl (2147483651, 2147483651, 0, 0, 0))], [], [(1736705, 2147483648, 2147483651, 0, 0)])]) (ext := []) (sp := []) (N := 1000) tr_h (sv_cv sm_196_11501b45_ok sv_nv) (by decide +kernel) sv_npR _ List.mem_cons_self
set_option maxRecDepth 1000000 in
theorem tr_lo3 : sv_plR hs_Rs sg tr_s 2 (19, 33, 33, 0, [some (.inr (some 106)), some (.inr (some 33)), some (.inl (0, 4294967295, 0, 0, 0)), some (.inl (2147483651, 2147483651, 0, 0, 0))], [], [(1736705, 2147483652, 2147483688, 0, 0), (1753091, 0, 2147483663, 0, 0), (1785859, 0, 4294967295, 0, 0)]) := sv_chunkR (S := [sm_196_11501b45, sm_197_7e2dd2ff, sm_195_69f8e7a8]) (cut := [19]) (cs := [(19, 33, 33, 0, [some (.inr (some 106)), some (.inr (some 33)), some (.inl (0, 4294967295, 0, 0, 0)), some (.inl (2147483651, 2147483651, 0, 0, 0))], [], [(1736705, 2147483652, 2147483688, 0, 0), (1753091, 0, 2147483663, 0, 0), (1785859, 0, 4294967295, 0, 0)])]) (ext := [tr_T4]) (sp := []) (N := 1000) tr_h (sv_cv sm_196_11501b45_ok (sv_cv sm_197_7e2dd2ff_ok (sv_cv sm_195_69f8e7a8_ok sv_nv))) (by decide +kernel) (sv_cpR tr_T4_ok sv_npR) _ List.mem_cons_self
set_option maxRecDepth 1000000 in
theorem tr_mi3 : sv_plR hs_Rs sg tr_s 2 (19, 34, 34, 0, [some (.inr (some 106)), some (.inr (some 33)), some (.inl (0, 4294967295, 0, 0, 0)), some (.inl (2147483651, 2147483651, 0, 0, 0))], [], [(1736705, 2147483652, 2147483688, 0, 0), (1753091, 2147483664, 2147483665, 0, 0), (1785859, 2147483648, 2147483653, 0, 0)]) := sv_chunkR (S := [sm_195_91b4790c, sm_197_7e2dd2ff]) (cut := [19]) (cs := [(19, 34, 34, 0, [some (.inr (some 106)), some (.inr (some 33)), some (.inl (0, 4294967295, 0, 0, 0)), some (.inl (2147483651, 2147483651, 0, 0, 0))], [], [(1736705, 2147483652, 2147483688, 0, 0), (1753091, 2147483664, 2147483665, 0, 0), (1785859, 2147483648, 2147483653, 0, 0)])]) (ext := [tr_T4]) (sp := []) (N := 1000) tr_h (sv_cv sm_195_91b4790c_ok (sv_cv sm_197_7e2dd2ff_ok sv_nv)) (by decide +kernel) (sv_cpR tr_T4_ok sv_npR) _ List.mem_cons_self
set_option maxRecDepth 1000000 in
theorem tr_hi3 : sv_plR hs_Rs sg tr_s 2 (19, 35, 35, 0, [some (.inr (some 106)), some (.inr (some 33)), some (.inl (0, 4294967295, 0, 0, 0)), some (.inl (2147483651, 2147483651, 0, 0, 0))], [], [(1736705, 2147483652, 2147483688, 0, 0), (1753091, 2147483666, 4294967295, 0, 0), (1785859, 0, 4294967295, 0, 0)]) := sv_chunkR (S := [sm_195_70062b6d, sm_197_7e2dd2ff]) (cut := [19]) (cs := [(19, 35, 35, 0, [some (.inr (some 106)), some (.inr (some 33)), some (.inl (0, 4294967295, 0, 0, 0)), some (.inl (2147483651, 2147483651, 0, 0, 0))], [], [(1736705, 2147483652, 2147483688, 0, 0), (1753091, 2147483666, 4294967295, 0, 0), (1785859, 0, 4294967295, 0, 0)])]) (ext := [tr_T4]) (sp := []) (N := 1000) tr_h (sv_cv sm_195_70062b6d_ok (sv_cv sm_197_7e2dd2ff_ok sv_nv)) (by decide +kernel) (sv_cpR tr_T4_ok sv_npR) _ List.mem_cons_self
def tr_T3 : sv_CS := (19, 31, 31, 0, [some (.inr (some 106)), some (.inr (some 33)), some (.inl (0, 4294967295, 0, 0, 0)), some (.inl (2147483651, 2147483651, 0, 0, 0))], [], [(1736705, 2147483648, 2147483688, 0, 0)])
theorem tr_T3_ok : sv_plR hs_Rs sg tr_s 2 tr_T3 := sv_splitR (ts := tr_ts 3 31) rfl (fun t ht => by
  rcases List.mem_cons.mp ht with rfl | ht
  · exact tr_x3
  rcases List.mem_cons.mp ht with rfl | ht
  · exact tr_lo3
  rcases List.mem_cons.mp ht with rfl | ht
  · exact tr_mi3
  rcases List.mem_cons.mp ht with rfl | ht
  · exact tr_hi3
  · cases ht) (fun w0 w hR hfr hG hf => tr_sp 3 31 (by decide) hR hfr hG)
set_option maxRecDepth 1000000 in
theorem tr_x2 : sv_plR hs_Rs sg tr_s 2 (19, 22, 22, 0, [some (.inr (some 106)), some (.inr (some 33)), some (.inl (0, 4294967295, 0, 0, 0)), some (.inl (2147483650, 2147483650, 0, 0, 0))], [], [(1736705, 2147483648, 2147483650, 0, 0)]) := sv_chunkR (S := [sm_196_11501b45]) (cut := [19]) (cs := [(19, 22, 22, 0, [some (.inr (some 106)), some (.inr (some 33)), some (.inl (0, 4294967295, 0, 0, 0)), some (.inl (2147483650, 2147483650, 0, 0, 0))], [], [(1736705, 2147483648, 2147483650, 0, 0)])]) (ext := []) (sp := []) (N := 1000) tr_h (sv_cv sm_196_11501b45_ok sv_nv) (by decide +kernel) sv_npR _ List.mem_cons_self
set_option maxRecDepth 1000000 in
theorem tr_lo2 : sv_plR hs_Rs sg tr_s 2 (19, 23, 23, 0, [some (.inr (some 106)), some (.inr (some 33)), some (.inl (0, 4294967295, 0, 0, 0)), some (.inl (2147483650, 2147483650, 0, 0, 0))], [], [(1736705, 2147483651, 2147483688, 0, 0), (1753090, 0, 2147483663, 0, 0), (1785858, 0, 4294967295, 0, 0)]) := sv_chunkR (S := [sm_196_11501b45, sm_197_7e2dd2ff, sm_195_0fc513a5]) (cut := [19]) (cs := [(19, 23, 23, 0, [some (.inr (some 106)), some (.inr (some 33)), some (.inl (0, 4294967295, 0, 0, 0)), some (.inl (2147483650, 2147483650, 0, 0, 0))], [], [(1736705, 2147483651, 2147483688, 0, 0), (1753090, 0, 2147483663, 0, 0), (1785858, 0, 4294967295, 0, 0)])]) (ext := [tr_T3]) (sp := []) (N := 1000) tr_h (sv_cv sm_196_11501b45_ok (sv_cv sm_197_7e2dd2ff_ok (sv_cv sm_195_0fc513a5_ok sv_nv))) (by decide +kernel) (sv_cpR tr_T3_ok sv_npR) _ List.mem_cons_self
set_option maxRecDepth 1000000 in
theorem tr_mi2 : sv_plR hs_Rs sg tr_s 2 (19, 24, 24, 0, [some (.inr (some 106)), some (.inr (some 33)), some (.inl (0, 4294967295, 0, 0, 0)), some (.inl (2147483650, 2147483650, 0, 0, 0))], [], [(1736705, 2147483651, 2147483688, 0, 0), (1753090, 2147483664, 2147483665, 0, 0), (1785858, 2147483648, 2147483653, 0, 0)]) := sv_chunkR (S := [sm_195_a8808e94, sm_197_7e2dd2ff]) (cut := [19]) (cs := [(19, 24, 24, 0, [some (.inr (some 106)), some (.inr (some 33)), some (.inl (0, 4294967295, 0, 0, 0)), some (.inl (2147483650, 2147483650, 0, 0, 0))], [], [(1736705, 2147483651, 2147483688, 0, 0), (1753090, 2147483664, 2147483665, 0, 0), (1785858, 2147483648, 2147483653, 0, 0)])]) (ext := [tr_T3]) (sp := []) (N := 1000) tr_h (sv_cv sm_195_a8808e94_ok (sv_cv sm_197_7e2dd2ff_ok sv_nv)) (by decide +kernel) (sv_cpR tr_T3_ok sv_npR) _ List.mem_cons_self
set_option maxRecDepth 1000000 in
theorem tr_hi2 : sv_plR hs_Rs sg tr_s 2 (19, 25, 25, 0, [some (.inr (some 106)), some (.inr (some 33)), some (.inl (0, 4294967295, 0, 0, 0)), some (.inl (2147483650, 2147483650, 0, 0, 0))], [], [(1736705, 2147483651, 2147483688, 0, 0), (1753090, 2147483666, 4294967295, 0, 0), (1785858, 0, 4294967295, 0, 0)]) := sv_chunkR (S := [sm_195_6c34145d, sm_197_7e2dd2ff]) (cut := [19]) (cs := [(19, 25, 25, 0, [some (.inr (some 106)), some (.inr (some 33)), some (.inl (0, 4294967295, 0, 0, 0)), some (.inl (2147483650, 2147483650, 0, 0, 0))], [], [(1736705, 2147483651, 2147483688, 0, 0), (1753090, 2147483666, 4294967295, 0, 0), (1785858, 0, 4294967295, 0, 0)])]) (ext := [tr_T3]) (sp := []) (N := 1000) tr_h (sv_cv sm_195_6c34145d_ok (sv_cv sm_197_7e2dd2ff_ok sv_nv)) (by decide +kernel) (sv_cpR tr_T3_ok sv_npR) _ List.mem_cons_self
def tr_T2 : sv_CS := (19, 21, 21, 0, [some (.inr (some 106)), some (.inr (some 33)), some (.inl (0, 4294967295, 0, 0, 0)), some (.inl (2147483650, 2147483650, 0, 0, 0))], [], [(1736705, 2147483648, 2147483688, 0, 0)])
theorem tr_T2_ok : sv_plR hs_Rs sg tr_s 2 tr_T2 := sv_splitR (ts := tr_ts 2 21) rfl (fun t ht => by
  rcases List.mem_cons.mp ht with rfl | ht
  · exact tr_x2
  rcases List.mem_cons.mp ht with rfl | ht
  · exact tr_lo2
  rcases List.mem_cons.mp ht with rfl | ht
  · exact tr_mi2
  rcases List.mem_cons.mp ht with rfl | ht
  · exact tr_hi2
  · cases ht) (fun w0 w hR hfr hG hf => tr_sp 2 21 (by decide) hR hfr hG)
set_option maxRecDepth 1000000 in
theorem tr_x1 : sv_plR hs_Rs sg tr_s 2 (19, 12, 12, 0, [some (.inr (some 106)), some (.inr (some 33)), some (.inl (0, 4294967295, 0, 0, 0)), some (.inl (2147483649, 2147483649, 0, 0, 0))], [], [(1736705, 2147483648, 2147483649, 0, 0)]) := sv_chunkR (S := [sm_196_11501b45]) (cut := [19]) (cs := [(19, 12, 12, 0, [some (.inr (some 106)), some (.inr (some 33)), some (.inl (0, 4294967295, 0, 0, 0)), some (.inl (2147483649, 2147483649, 0, 0, 0))], [], [(1736705, 2147483648, 2147483649, 0, 0)])]) (ext := []) (sp := []) (N := 1000) tr_h (sv_cv sm_196_11501b45_ok sv_nv) (by decide +kernel) sv_npR _ List.mem_cons_self
set_option maxRecDepth 1000000 in
theorem tr_lo1 : sv_plR hs_Rs sg tr_s 2 (19, 13, 13, 0, [some (.inr (some 106)), some (.inr (some 33)), some (.inl (0, 4294967295, 0, 0, 0)), some (.inl (2147483649, 2147483649, 0, 0, 0))], [], [(1736705, 2147483650, 2147483688, 0, 0), (1753089, 0, 2147483663, 0, 0), (1785857, 0, 4294967295, 0, 0)]) := sv_chunkR (S := [sm_196_11501b45, sm_197_7e2dd2ff, sm_195_f699dd61]) (cut := [19]) (cs := [(19, 13, 13, 0, [some (.inr (some 106)), some (.inr (some 33)), some (.inl (0, 4294967295, 0, 0, 0)), some (.inl (2147483649, 2147483649, 0, 0, 0))], [], [(1736705, 2147483650, 2147483688, 0, 0), (1753089, 0, 2147483663, 0, 0), (1785857, 0, 4294967295, 0, 0)])]) (ext := [tr_T2]) (sp := []) (N := 1000) tr_h (sv_cv sm_196_11501b45_ok (sv_cv sm_197_7e2dd2ff_ok (sv_cv sm_195_f699dd61_ok sv_nv))) (by decide +kernel) (sv_cpR tr_T2_ok sv_npR) _ List.mem_cons_self
set_option maxRecDepth 1000000 in
theorem tr_mi1 : sv_plR hs_Rs sg tr_s 2 (19, 14, 14, 0, [some (.inr (some 106)), some (.inr (some 33)), some (.inl (0, 4294967295, 0, 0, 0)), some (.inl (2147483649, 2147483649, 0, 0, 0))], [], [(1736705, 2147483650, 2147483688, 0, 0), (1753089, 2147483664, 2147483665, 0, 0), (1785857, 2147483648, 2147483653, 0, 0)]) := sv_chunkR (S := [sm_195_44c56f2e, sm_197_7e2dd2ff]) (cut := [19]) (cs := [(19, 14, 14, 0, [some (.inr (some 106)), some (.inr (some 33)), some (.inl (0, 4294967295, 0, 0, 0)), some (.inl (2147483649, 2147483649, 0, 0, 0))], [], [(1736705, 2147483650, 2147483688, 0, 0), (1753089, 2147483664, 2147483665, 0, 0), (1785857, 2147483648, 2147483653, 0, 0)])]) (ext := [tr_T2]) (sp := []) (N := 1000) tr_h (sv_cv sm_195_44c56f2e_ok (sv_cv sm_197_7e2dd2ff_ok sv_nv)) (by decide +kernel) (sv_cpR tr_T2_ok sv_npR) _ List.mem_cons_self
set_option maxRecDepth 1000000 in
theorem tr_hi1 : sv_plR hs_Rs sg tr_s 2 (19, 15, 15, 0, [some (.inr (some 106)), some (.inr (some 33)), some (.inl (0, 4294967295, 0, 0, 0)), some (.inl (2147483649, 2147483649, 0, 0, 0))], [], [(1736705, 2147483650, 2147483688, 0, 0), (1753089, 2147483666, 4294967295, 0, 0), (1785857, 0, 4294967295, 0, 0)]) := sv_chunkR (S := [sm_195_d1e90714, sm_197_7e2dd2ff]) (cut := [19]) (cs := [(19, 15, 15, 0, [some (.inr (some 106)), some (.inr (some 33)), some (.inl (0, 4294967295, 0, 0, 0)), some (.inl (2147483649, 2147483649, 0, 0, 0))], [], [(1736705, 2147483650, 2147483688, 0, 0), (1753089, 2147483666, 4294967295, 0, 0), (1785857, 0, 4294967295, 0, 0)])]) (ext := [tr_T2]) (sp := []) (N := 1000) tr_h (sv_cv sm_195_d1e90714_ok (sv_cv sm_197_7e2dd2ff_ok sv_nv)) (by decide +kernel) (sv_cpR tr_T2_ok sv_npR) _ List.mem_cons_self
def tr_T1 : sv_CS := (19, 11, 11, 0, [some (.inr (some 106)), some (.inr (some 33)), some (.inl (0, 4294967295, 0, 0, 0)), some (.inl (2147483649, 2147483649, 0, 0, 0))], [], [(1736705, 2147483648, 2147483688, 0, 0)])
theorem tr_T1_ok : sv_plR hs_Rs sg tr_s 2 tr_T1 := sv_splitR (ts := tr_ts 1 11) rfl (fun t ht => by
  rcases List.mem_cons.mp ht with rfl | ht
  · exact tr_x1
  rcases List.mem_cons.mp ht with rfl | ht
  · exact tr_lo1
  rcases List.mem_cons.mp ht with rfl | ht
  · exact tr_mi1
  rcases List.mem_cons.mp ht with rfl | ht
  · exact tr_hi1
  · cases ht) (fun w0 w hR hfr hG hf => tr_sp 1 11 (by decide) hR hfr hG)
set_option maxRecDepth 1000000 in
theorem tr_x0 : sv_plR hs_Rs sg tr_s 2 (19, 2, 2, 0, [some (.inr (some 106)), some (.inr (some 33)), some (.inl (0, 4294967295, 0, 0, 0)), some (.inl (2147483648, 2147483648, 0, 0, 0))], [], [(1736705, 2147483648, 2147483648, 0, 0)]) := sv_chunkR (S := [sm_196_11501b45]) (cut := [19]) (cs := [(19, 2, 2, 0, [some (.inr (some 106)), some (.inr (some 33)), some (.inl (0, 4294967295, 0, 0, 0)), some (.inl (2147483648, 2147483648, 0, 0, 0))], [], [(1736705, 2147483648, 2147483648, 0, 0)])]) (ext := []) (sp := []) (N := 1000) tr_h (sv_cv sm_196_11501b45_ok sv_nv) (by decide +kernel) sv_npR _ List.mem_cons_self
set_option maxRecDepth 1000000 in
theorem tr_lo0 : sv_plR hs_Rs sg tr_s 2 (19, 3, 3, 0, [some (.inr (some 106)), some (.inr (some 33)), some (.inl (0, 4294967295, 0, 0, 0)), some (.inl (2147483648, 2147483648, 0, 0, 0))], [], [(1736705, 2147483649, 2147483688, 0, 0), (1753088, 0, 2147483663, 0, 0), (1785856, 0, 4294967295, 0, 0)]) := sv_chunkR (S := [sm_196_11501b45, sm_197_7e2dd2ff, sm_195_90a4296c]) (cut := [19]) (cs := [(19, 3, 3, 0, [some (.inr (some 106)), some (.inr (some 33)), some (.inl (0, 4294967295, 0, 0, 0)), some (.inl (2147483648, 2147483648, 0, 0, 0))], [], [(1736705, 2147483649, 2147483688, 0, 0), (1753088, 0, 2147483663, 0, 0), (1785856, 0, 4294967295, 0, 0)])]) (ext := [tr_T1]) (sp := []) (N := 1000) tr_h (sv_cv sm_196_11501b45_ok (sv_cv sm_197_7e2dd2ff_ok (sv_cv sm_195_90a4296c_ok sv_nv))) (by decide +kernel) (sv_cpR tr_T1_ok sv_npR) _ List.mem_cons_self
set_option maxRecDepth 1000000 in
theorem tr_mi0 : sv_plR hs_Rs sg tr_s 2 (19, 4, 4, 0, [some (.inr (some 106)), some (.inr (some 33)), some (.inl (0, 4294967295, 0, 0, 0)), some (.inl (2147483648, 2147483648, 0, 0, 0))], [], [(1736705, 2147483649, 2147483688, 0, 0), (1753088, 2147483664, 2147483665, 0, 0), (1785856, 2147483648, 2147483653, 0, 0)]) := sv_chunkR (S := [sm_195_7df198b6, sm_197_7e2dd2ff]) (cut := [19]) (cs := [(19, 4, 4, 0, [some (.inr (some 106)), some (.inr (some 33)), some (.inl (0, 4294967295, 0, 0, 0)), some (.inl (2147483648, 2147483648, 0, 0, 0))], [], [(1736705, 2147483649, 2147483688, 0, 0), (1753088, 2147483664, 2147483665, 0, 0), (1785856, 2147483648, 2147483653, 0, 0)])]) (ext := [tr_T1]) (sp := []) (N := 1000) tr_h (sv_cv sm_195_7df198b6_ok (sv_cv sm_197_7e2dd2ff_ok sv_nv)) (by decide +kernel) (sv_cpR tr_T1_ok sv_npR) _ List.mem_cons_self
set_option maxRecDepth 1000000 in
theorem tr_hi0 : sv_plR hs_Rs sg tr_s 2 (19, 5, 5, 0, [some (.inr (some 106)), some (.inr (some 33)), some (.inl (0, 4294967295, 0, 0, 0)), some (.inl (2147483648, 2147483648, 0, 0, 0))], [], [(1736705, 2147483649, 2147483688, 0, 0), (1753088, 2147483666, 4294967295, 0, 0), (1785856, 0, 4294967295, 0, 0)]) := sv_chunkR (S := [sm_195_cddb3824, sm_197_7e2dd2ff]) (cut := [19]) (cs := [(19, 5, 5, 0, [some (.inr (some 106)), some (.inr (some 33)), some (.inl (0, 4294967295, 0, 0, 0)), some (.inl (2147483648, 2147483648, 0, 0, 0))], [], [(1736705, 2147483649, 2147483688, 0, 0), (1753088, 2147483666, 4294967295, 0, 0), (1785856, 0, 4294967295, 0, 0)])]) (ext := [tr_T1]) (sp := []) (N := 1000) tr_h (sv_cv sm_195_cddb3824_ok (sv_cv sm_197_7e2dd2ff_ok sv_nv)) (by decide +kernel) (sv_cpR tr_T1_ok sv_npR) _ List.mem_cons_self
def tr_T0 : sv_CS := (19, 1, 1, 0, [some (.inr (some 106)), some (.inr (some 33)), some (.inl (0, 4294967295, 0, 0, 0)), some (.inl (2147483648, 2147483648, 0, 0, 0))], [], [(1736705, 2147483648, 2147483688, 0, 0)])
theorem tr_T0_ok : sv_plR hs_Rs sg tr_s 2 tr_T0 := sv_splitR (ts := tr_ts 0 1) rfl (fun t ht => by
  rcases List.mem_cons.mp ht with rfl | ht
  · exact tr_x0
  rcases List.mem_cons.mp ht with rfl | ht
  · exact tr_lo0
  rcases List.mem_cons.mp ht with rfl | ht
  · exact tr_mi0
  rcases List.mem_cons.mp ht with rfl | ht
  · exact tr_hi0
  · cases ht) (fun w0 w hR hfr hG hf => tr_sp 0 1 (by decide) hR hfr hG)
set_option maxRecDepth 1000000 in
theorem tr_ok : sv_validR hs_Rs sg tr_s := sv_mainR (S := []) (cut := [19]) (ext := [tr_T0]) tr_h sv_nv (by decide +kernel) (sv_cpR tr_T0_ok sv_npR)
