section LX6
variable {p : Program} {l : Launch} {e : Env} {s : State} {m : MethodId} {below : List Frame} {meth : Method} {c : Code} {b L : Nat} {xs : Nat → Int32} {D : va_G} {sa : Nat × Nat} {as0 : List Nat} {nc ns : Nat}
theorem lx_v11 : vwCl[11]? = some (RX11, TX11, 17) := rfl
theorem lx_v12 : vwCl[12]? = some (RX12, TX12, 48) := rfl
set_option maxRecDepth 100000 in
theorem lx_k8 : Cond.classLink R_law 8 RX11 ∈ lw_tbl := ia_w_in (p := 138) (by decide +kernel) (by intro z; cases z)
set_option maxRecDepth 100000 in
theorem lx_k19 : Cond.classLink R_law 19 RX12 ∈ lw_tbl := ia_w_in (p := 1465) (by decide +kernel) (by intro z; cases z)
set_option maxRecDepth 100000 in
theorem lx_o18 : ia_okI 18 (18, 1, 0, 2, 0, 140) = true := by decide +kernel
set_option maxRecDepth 100000 in
theorem lx_o21 : ia_okI 18 (21, 1, 89, 2, 0, 1466) = true := by decide +kernel
theorem lx_n0 : ia_na 0 = 1 ∧ ia_mc 0 = 183 ∧ ia_ms 0 = 10834 := by decide +kernel
theorem lx_n89 : ia_na 89 = 1 ∧ ia_mc 89 = 19 ∧ ia_ms 89 = 11702 := by decide +kernel
theorem lx_new (C0 : lw_At p s m meth c b L xs) {ci i pc n : Nat} {r : vw_C} {rest : List Value} {σ : ia_H} {H : Heap} {locs : List Loc} {ws : va_W} {tys : List (ClassId × FieldType)} {ls : Array Slot} (hr : vwCl[ci]? = some r) (hlk : Cond.classLink R_law i r.1 ∈ lw_tbl) (hd : decode code pc = .ok (.new i, 3)) (hG : lx_G s D sa as0 H locs ws tys σ n) (hc : nc + 1 ≤ 601024) (hs : ns + r.2.2 ≤ 7293034)
    (k : ∀ (q : Nat) (H1 : Heap) (ws1 : va_W), ws1.map Prod.fst = ws.map Prod.fst ++ [q] → lx_G s D sa (ws.map Prod.fst ++ [q]) H1 locs ws1 tys (ia_set2 σ n (ci, ia_Fs.getD ci (0, []))) (n + 1) → W p l e room_1 s m #[Value.ref b] below meth c H1 locs (nc + 1) (ns + r.2.2) (lw_Z below #[Value.ref b] s) (F0 m (pc + 3) ls (.ref q :: rest))) : W p l e room_1 s m #[Value.ref b] below meth c H locs nc ns (lw_Z below #[Value.ref b] s) (F0 m pc ls rest) := by
  obtain ⟨hx, hb, hr9, hml, hown, hts, hX, hbl, hlocks, hgv⟩ := id C0
  obtain ⟨hK, hP, hD, hS, hn, hR, x0, hx0⟩ := id hG
  have hA : ∀ q : Nat, s.heap.size ≤ q → (fun q : Nat => s.heap.size ≤ q) q := fun _ h => h
  have htb : ∀ w ∈ ia_TB, w.before #[Value.ref b] s = true := fun w hw => hts w (List.mem_filter.mp hw).1
  have hci : ci < 13 := (List.getElem?_eq_some_iff.mp hr).1
  obtain ⟨ty, hty, -, q', hq', hq1, fs, hfs, hfv⟩ := ia_cty hr
  have hgd : ia_Fs.getD ci (0, []) = q' := by rw [List.getD_eq_getElem?_getD, hq']; rfl
  rw [hgd] at k
  refine va_new (D := D) (ci := ci) (fs := fs) (C := r.1) (T := r.2.1) (N := r.2.2) (Ts := ia_TB) hx hb htb (ia_okC_at hr).1 ty hty hown (hts _ hlk) (htb _ (ia_okC_at hr).2.1) (htb _ (ia_okC_at hr).2.2.1) hK hP hD hS hA hr hfs hc hs hd (fun q H1 hP1 hD1 hS1 => ?_)
  refine k q H1 (ws ++ [(q, .inr (ci, fs))]) (ia_fst_app _ _) ⟨hK, hP1, hD1, hS1, by rw [List.length_append, hn]; rfl, hR.push hn (fun _ z => z) ?_, [], by rw [ia_fst_app, List.append_nil]⟩
  exact ⟨fun _ => ⟨fs, rfl, fun k a hk => hfv _ _ k a hk⟩, fun z => absurd z (by show ¬ ci = 50; omega), fun z => absurd z (by show ¬ ci = 51; omega), fun z => absurd z (by show ¬ ci = 52; omega), fun z => absurd z (by show ¬ ci = 53; omega), fun z => absurd z (by show ¬ ci = 54; omega), fun z => absurd z (by show ¬ ci = 55; omega)⟩
theorem whole_start (l : Launch) (hl : l.stackTraces = false) (hbd : L ≤ 3072) (C0 : lw_At p s m meth c b L xs) : W p l e room_1 s m #[Value.ref b] below meth c s.heap [] 0 0 (lw_Z below #[Value.ref b] s) (entryFrame m ([Value.ref b] : List Value).toArray 7) := by
  obtain ⟨hx, hb, hr, hml, hown, hts, hX, hbl, hlocks, hgv⟩ := id C0
  have hA : ∀ q : Nat, s.heap.size ≤ q → (fun q : Nat => s.heap.size ≤ q) q := fun _ h => h
  have htb : ∀ w ∈ ia_TB, w.before #[Value.ref b] s = true := fun w hw => hts w (List.mem_filter.mp hw).1
  obtain ⟨sa, N⟩ := lx_N C0
  obtain ⟨sb, M⟩ := ex_M C0
  obtain ⟨D, hK⟩ := lx_K C0
  obtain ⟨v1, v2, v3⟩ := lx_n0
  obtain ⟨w1, w2, w3⟩ := lx_n89
  have hl9 := lv_entry ([.ref b]) (n := 7) (Nat.le_of_ble_eq_true rfl)
  rw [lg_entry_eq]
  generalize (lg_sl ([Value.ref b]) ++ List.replicate (7 - (lg_sl ([Value.ref b])).length) Slot.unset).toArray = ls at hl9 ⊢
  have hlv : lv_has ls 7 [(0, .ref b)] := hl9
  have hG0 : lx_G s D sa [] s.heap [] [] [] ia_w0 0 := ⟨hK, fun k q h => by simp at h, ⟨fun i j p q h => by simp at h, fun k q h => by simp at h⟩, va_S.rf, rfl, ia_w0_R sa, [], rfl⟩
  refine lx_new (ci := 11) (i := 8) (r := (RX11, TX11, 17)) C0 lx_v11 lx_k8 d_law_0 hG0 (by decide) (by show 0 + 17 ≤ 7293034; decide) (fun ax H1 ws1 e1 hG1 => ?_)
  have hG1 : lx_G s D sa [ax] H1 [] ws1 [] ia_i0 1 := hG1
  have e1 : ws1.map Prod.fst = [ax] := e1
  refine lv_dup hx hb d_law_3 rfl ?_
  refine lx_init (y2 := 0) (i := 18) (kx := 0) (bx := ax) (rest := [.ref ax]) C0 N lx_o18 d_law_4 (Nat.le_of_ble_eq_true rfl) v1 ia_r1_ok hlv.1 hG1 (by rw [e1]; rfl) ⟨by rw [v2]; decide, by rw [v3]; show 0 + 17 + 10834 ≤ 7293034; decide⟩ (fun H2 locs2 ws2 tys2 hG2 => ?_)
  refine lv_astore_n (i := 1) (lv' := [(1, .ref ax), (0, .ref b)]) hx hb d_law_7 rfl hlv (by decide) rfl (fun ls hlv => ?_)
  refine lx_new (ci := 12) (i := 19) (r := (RX12, TX12, 48)) C0 lx_v12 lx_k19 d_law_8 hG2 (by rw [v2]; decide) (by rw [v3]; show 0 + 17 + 10834 + 48 ≤ 7293034; decide) (fun am H3 ws3 e3 hG3 => ?_)
  have hG3 : lx_G s D sa (ws2.map Prod.fst ++ [am]) H3 locs2 ws3 tys2 ia_i2 185 := hG3
  obtain ⟨-, -, -, -, n2, -, x2, hx2⟩ := id hG2
  have hax : (ws3.map Prod.fst)[0]? = some ax := by rw [e3, hx2, e1]; rfl
  have ham : (ws3.map Prod.fst)[184]? = some am := by
    rw [e3, List.getElem?_append_right (by rw [List.length_map, n2]; exact Nat.le_refl _), List.length_map, n2]
    rfl
  refine lv_dup hx hb d_law_11 rfl ?_
  refine lx_init (y2 := 89) (i := 21) (kx := 184) (bx := am) (rest := [.ref am]) C0 N lx_o21 d_law_12 (Nat.le_of_ble_eq_true rfl) w1 ia_r3_ok hlv.1 hG3 ham ⟨by rw [v2, w2]; decide, by rw [v3, w3]; show 0 + 17 + 10834 + 48 + 11702 ≤ 7293034; decide⟩ (fun H4 locs4 ws4 tys4 hG4 => ?_)
  refine lv_astore_n (i := 2) (lv' := [(2, .ref am), (1, .ref ax), (0, .ref b)]) hx hb d_law_15 rfl hlv (by decide) rfl (fun ls hlv => ?_)
  refine lv_iconst (v := 1) hx hb d_law_16 (by decide) ?_
  obtain ⟨hK4, hP4, hD4, hS4, hn4, hR4, x4, hx4⟩ := id hG4
  refine va_newa (ty := .long) (N' := 1) (a0 := (1, .inr (.inl (fun _ => (0 : Int64))))) hx hb (htb _ (ia_is_in ia_acj)) rfl hK4 hP4 hD4 hS4 hA (fun _ => rfl) (by decide) (by decide) (by decide) (by rw [v2, w2]; show 0 + 1 + 183 + 1 + 19 + 1 ≤ 601024; decide) (by rw [v3, w3]; show 0 + 17 + 10834 + 48 + 11702 + 1 ≤ 7293034; decide) d_law_17 (fun ao cA H5 hK5 hP5 hD5 hS5 => ?_)
  have hG5 : lx_G s D sa (ws3.map Prod.fst) H5 locs4 (ws4 ++ [(ao, .inl (cA, (1, .inr (.inl (fun _ => (0 : Int64))))))]) (tys4 ++ [(cA, .long)]) ia_S4 205 := by
    rw [← ia_S4_eq]
    refine ⟨hK5, hP5, hD5, hS5, by rw [List.length_append, hn4]; rfl, hR4.push hn4 (fun _ z => List.mem_append_left _ z) ?_, x4 ++ [ao], by rw [ia_fst_app, hx4, List.append_assoc]⟩
    exact ⟨fun z => absurd (show (51 : Nat) < 50 from z) (by decide), fun z => absurd (show (51 : Nat) = 50 from z) (by decide), fun _ => ⟨cA, _, rfl, List.mem_append_right _ List.mem_cons_self, fun k a' hk _ => by rw [ia_rows_at hk]; rfl⟩, fun z => absurd (show (51 : Nat) = 52 from z) (by decide), fun z => absurd (show (51 : Nat) = 53 from z) (by decide), fun z => absurd (show (51 : Nat) = 54 from z) (by decide), fun z => absurd (show (51 : Nat) = 55 from z) (by decide)⟩
  obtain ⟨hK6, hP6, hD6, hS6, hn6, hR6, x6, hx6⟩ := id hG5
  have hl4 : (ws4.map Prod.fst).length = 204 := by rw [List.length_map]; exact hn4
  have hG6 : lx_G s D sa ((ws4 ++ [(ao, (.inl (cA, (1, .inr (.inl (fun _ => (0 : Int64))))) : va_E))]).map Prod.fst) H5 locs4 (jPad (ws4 ++ [(ao, .inl (cA, (1, .inr (.inl (fun _ => (0 : Int64))))))])) (tys4 ++ [(cA, .long)]) (cm_s jW0) 205 := ⟨hK6, jPad_P hP6, jPad_D hD6, hS6, by rw [jPad_len]; exact hn6, jz_R hR6, [], by rw [jPad_fst, List.append_nil]⟩
  have hax6 : ((ws4 ++ [(ao, (.inl (cA, (1, .inr (.inl (fun _ => (0 : Int64))))) : va_E))]).map Prod.fst)[0]? = some ax := by rw [ia_fst_app, hx4]; exact ia_app_mono _ _ (ia_app_mono _ _ hax)
  have ham6 : ((ws4 ++ [(ao, (.inl (cA, (1, .inr (.inl (fun _ => (0 : Int64))))) : va_E))]).map Prod.fst)[184]? = some am := by rw [ia_fst_app, hx4]; exact ia_app_mono _ _ (ia_app_mono _ _ ham)
  have hao6 : ((ws4 ++ [(ao, (.inl (cA, (1, .inr (.inl (fun _ => (0 : Int64))))) : va_E))]).map Prod.fst)[204]? = some ao := by
    rw [ia_fst_app, List.getElem?_append_right (by rw [hl4]; exact Nat.le_refl _), hl4]
    rfl
  refine lv_astore_n (i := 3) (lv' := [(3, .ref ao), (2, .ref am), (1, .ref ax), (0, .ref b)]) hx hb d_law_19 rfl hlv (by decide) rfl (fun ls hlv => ?_)
  refine lv_iconst (v := 0) hx hb d_law_20 (by decide) ?_
  refine lv_istore (i := 4) (lv' := lx_lv b ax am ao 0) hx hb d_law_21 hlv (by decide) rfl (fun ls hlv => ?_)
  exact lx_loop hl hbd C0 N M hax6 ham6 hao6 512 0 0 _ _ jW0 (by decide) (by omega) (by decide) (by rw [v2, w2]; show 0 + 1 + 183 + 1 + 19 + 1 + 512 ≤ 601024; decide) (by rw [v3, w3]; show 0 + 17 + 10834 + 48 + 11702 + 1 + 6 * 512 ≤ 7293034; decide) jz_ix H5 locs4 _ _ ls hlv hG6
end LX6
