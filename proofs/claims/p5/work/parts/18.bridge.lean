/-! ## what the plain machine does, the machine does -/
noncomputable def cm_ih (out : ia_O) (T : Nat × List (Option ia_V) × List ia_V × ia_H × Nat × Nat × Nat) : ia_K := fun a b c d e f g => @ite (Option ia_O) ((a, b, c, d, e, f, g) = T) (Classical.propDecidable _) (some out) none
theorem cm_ih_self (out : ia_O) (a : Nat) (b : List (Option ia_V)) (c : List ia_V) (d : ia_H) (e f g : Nat) : cm_ih out (a, b, c, d, e, f, g) a b c d e f g = some out := by
  unfold cm_ih
  rw [if_pos rfl]
theorem cm_ih_eq {out out' : ia_O} {T : Nat × List (Option ia_V) × List ia_V × ia_H × Nat × Nat × Nat} {a : Nat} {b : List (Option ia_V)} {c : List ia_V} {d : ia_H} {e f g : Nat} (h : cm_ih out T a b c d e f g = some out') : (a, b, c, d, e, f, g) = T := by
  unfold cm_ih at h
  split at h
  · assumption
  · cases h
noncomputable def cm_cf (o : ia_O) (T : Nat × List ia_V × ia_H × Nat) : Nat → List ia_V → ia_H → Nat → Option ia_O := fun a b c d => @ite (Option ia_O) ((a, b, c, d) = T) (Classical.propDecidable _) (some o) none
theorem cm_cf_self (o : ia_O) (a : Nat) (b : List ia_V) (c : ia_H) (d : Nat) : cm_cf o (a, b, c, d) a b c d = some o := by
  unfold cm_cf
  rw [if_pos rfl]
theorem cm_cf_eq {o o' : ia_O} {T : Nat × List ia_V × ia_H × Nat} {a : Nat} {b : List ia_V} {c : ia_H} {d : Nat} (h : cm_cf o T a b c d = some o') : (a, b, c, d) = T ∧ o = o' := by
  unfold cm_cf at h
  split at h
  · rename_i q
    cases h
    exact ⟨q, rfl⟩
  · cases h
theorem cm_back_e (r : Option cm_V) (t : List cm_V) : ia_back (r.map cm_e) (cm_es t) = cm_es (cm_back r t) := by
  cases r <;> rfl
theorem cm_pad : ∀ (l : List (Option ia_V)) (k : Nat), ia_pad k l = l ++ List.replicate (k - l.length) none
  | [], k => rfl
  | a :: l, k => by
    show a :: ia_pad (Nat.pred k) l = _
    rw [cm_pad l (Nat.pred k), List.length_cons, show Nat.pred k - l.length = k - (l.length + 1) from by rw [Nat.pred_eq_sub_one]; omega]
    rfl
theorem cm_ent_len : ∀ as : List ia_V, (ia_ent as).length = ia_sz as
  | [] => rfl
  | .inl q :: as => by
    show (ia_ent as).length + 1 = Nat.add 1 (ia_sz as)
    rw [cm_ent_len as, Nat.add_comm]
    rfl
  | .inr (.inl q) :: as => by
    show (ia_ent as).length + 1 + 1 = Nat.add 2 (ia_sz as)
    rw [cm_ent_len as]
    show _ = 2 + ia_sz as
    omega
  | .inr (.inr q) :: as => by
    show (ia_ent as).length + 1 = Nat.add 1 (ia_sz as)
    rw [cm_ent_len as, Nat.add_comm]
    rfl
theorem cm_ent_e : ∀ as : List cm_V, cm_el (as.flatMap (fun a => match a with
    | .inr (.inl _) => [some a, none]
    | _ => [some a])) = ia_ent (cm_es as)
  | [] => rfl
  | .inl q :: as => by
    show some (cm_e (.inl q)) :: cm_el (as.flatMap _) = some (cm_e (.inl q)) :: ia_ent (cm_es as)
    rw [cm_ent_e as]
  | .inr (.inl q) :: as => by
    show some (cm_e (.inr (.inl q))) :: none :: cm_el (as.flatMap _) = some (cm_e (.inr (.inl q))) :: none :: ia_ent (cm_es as)
    rw [cm_ent_e as]
  | .inr (.inr q) :: as => by
    show some (cm_e (.inr (.inr q))) :: cm_el (as.flatMap _) = some (cm_e (.inr (.inr q))) :: ia_ent (cm_es as)
    rw [cm_ent_e as]
theorem cm_ent_el (y : Nat) (as : List cm_V) : cm_el (cm_ent y as) = ia_pad (ia_maxL y) (ia_ent (cm_es as)) := by
  rw [cm_pad, cm_ent_len, ← cm_ent_e]
  unfold cm_ent
  show List.map _ (_ ++ _) = _
  rw [List.map_append, List.map_replicate]
  rfl
def cm_Mets (C : Nat → List cm_V → cm_W → cm_O → Prop) (d : Nat) : Prop := ∀ (y : Nat) (as : List cm_V) (w : cm_W) (o : cm_O), C y as w o → ia_okM y = true → ∀ (n : Nat) (l : Launch) (D : va_G) (sa : Nat × Nat) (vs : List Value) (ws : va_W) (tys : List (ClassId × FieldType)) (sz : Nat), ia_S sa (ws.map Prod.fst) (cm_es as) vs → ws.length = n → ia_R sa tys (cm_s w) ws → Met l (ia_nm y) (ia_ws y) (ia_rm d y) (ia_P D sa tys ws sz vs) (ia_Q D sa ws sz (o.1.map cm_e, cm_s o.2, n)) (ia_mc y) (ia_ms y) (va_A ws sz)
section CMB
variable {p : Program} {l : Launch} {e : Env} {R : Room} {s : State} {m : MethodId} {args : Array Value} {below : List Frame} {meth : Method} {c : Code}
variable {D : va_G} {sa : Nat × Nat} {y n d : Nat} {ws0 : va_W}
theorem cm_body {C : Nat → List cm_V → cm_W → cm_O → Prop} (hC : cm_Mets C d) (X : ia_X p R s m args meth c y d) (N : ia_N sa (va_A ws0 s.heap.size) s s.heap) {o : cm_O} : ∀ (F pc : Nat) (lv : cm_L) (st : List cm_V) (w : cm_W), cm_R C y F pc lv st w o → ia_WW p l e R s m args below meth c (MQ below (ia_Q D sa ws0 s.heap.size (o.1.map cm_e, cm_s o.2, n)) args s (ia_mc y) (ia_ms y) (va_A ws0 s.heap.size)) D sa (va_A ws0 s.heap.size) (ws0.map Prod.fst) (ia_maxL y) y pc (cm_el lv) (cm_es st) (cm_s w) n 0 0 := by
  intro F
  induction F with
  | zero => intro pc lv st w h; exact h.elim
  | succ F ihF =>
    intro pc lv st w h
    obtain ⟨ins, len, hdg, h⟩ := h
    rcases h with ⟨q, hq, h⟩ | ⟨y2, as, t, r, w', hq, hc, h⟩ | ⟨r, hq, ho⟩
    · obtain ⟨pc', lv', st', w'⟩ := q
      refine ia_s_do (call := fun _ _ _ _ => none) (ih := cm_ih (o.1.map cm_e, cm_s o.2, n) (pc', cm_el lv', cm_es st', cm_s w', n, 0, 0)) (out := (o.1.map cm_e, cm_s o.2, n)) (fun y as σ n o h => by cases h) X N (fun q h => Or.inr h) rfl hdg (ia_e1 X) (ia_e2 X) (ia_e0 X) (fun a b c' d' e' f' g' hz => ?_) ?_
      · have hT := cm_ih_eq hz
        cases hT
        exact ihF pc' lv' st' w' h
      · rw [cm_sim1 hq]
        exact cm_ih_self _ _ _ _ _ _ _ _
    · refine ia_s_do (call := cm_cf (r.map cm_e, cm_s w', n) (y2, cm_es as, cm_s w, n)) (ih := cm_ih (o.1.map cm_e, cm_s o.2, n) (pc + 3, cm_el lv, cm_es (cm_back r t), cm_s w', n, 0, 0)) (out := (o.1.map cm_e, cm_s o.2, n)) (fun y' as' σ' n' o' h' hok l D sa vs ws tys sz hS hn hR => ?_) X N (fun q h => Or.inr h) rfl hdg (ia_e1 X) (ia_e2 X) (ia_e0 X) (fun a b c' d' e' f' g' hz => ?_) ?_
      · obtain ⟨hT, ho⟩ := cm_cf_eq h'
        cases hT
        cases ho
        exact hC y2 as w (r, w') hc hok n l D sa vs ws tys sz hS hn hR
      · have hT := cm_ih_eq hz
        cases hT
        exact ihF (pc + 3) lv (cm_back r t) w' h
      · rw [cm_sim2 hq, cm_cf_self]
        show cm_ih _ _ (pc + 3) (cm_el lv) (ia_back (r.map cm_e) (cm_es t)) (cm_s w') n 0 0 = _
        rw [cm_back_e]
        exact cm_ih_self _ _ _ _ _ _ _ _
    · subst ho
      obtain ⟨rfl, hr⟩ := cm_sim3 (w := w) (n := n) hq
      rcases hr with ⟨rfl, hr⟩ | ⟨rfl, hr⟩ | ⟨rfl, hr⟩
      · exact ia_e1 X hdg hr
      · exact ia_e2 X hdg hr
      · exact ia_e0 X hdg hr
end CMB
/-! ### the two methods that read a static array -/
def cm_pc (cc : ByteArray) (i : Nat) : Prop := decode cc 0 = .ok (.iload_n 0, 1) ∧ decode cc 1 = .ok (.ifCond .lt 19, 3) ∧ decode cc 4 = .ok (.iload_n 0, 1) ∧ decode cc 5 = .ok (.getstatic i, 3) ∧ decode cc 8 = .ok (.arraylength, 1) ∧ decode cc 9 = .ok (.if_icmp .ge 11, 3) ∧ decode cc 12 = .ok (.getstatic i, 3) ∧ decode cc 15 = .ok (.iload_n 0, 1) ∧ decode cc 16 = .ok (.iaload, 1) ∧ decode cc 17 = .ok (.goto 4, 3) ∧ decode cc 20 = .ok (.iconst 0, 1) ∧ decode cc 21 = .ok (.ireturn, 1)
section CMP
variable {p : Program} {l : Launch} {e : Env} {R : Room} {s : State} {m : MethodId} {args : Array Value} {below : List Frame} {meth : Method} {c : Code}
variable {D : va_G} {sa : Nat × Nat} {y n d i : Nat} {ws0 : va_W} {w : cm_W}
theorem cm_pr_in {li : List Int} {x : Int32} (h1 : ¬ x < 0) (h2 : ¬ Int32.ofNat li.length ≤ x) (hl : li.length < 1000) : vp_in x li.length ∧ cm_pr li x = Int32.ofInt (li.getD x.toNatClampNeg 0) := by
  have e1 := ia_toInt x
  rw [ia_neg] at h1
  rw [ia_le, ia_Elen (by omega)] at h2
  have e2 := ia_cl (x := x) (by omega)
  refine ⟨?_, ?_⟩
  · rintro (q | q)
    · rw [ia_neg] at q; omega
    · rw [e2] at q; omega
  · unfold cm_pr
    rw [if_pos (by omega), e2, show x.toInt.toNat = ia_E x - 2147483648 from by omega]
theorem cm_pr_out {li : List Int} {x : Int32} (h : x < 0 ∨ Int32.ofNat li.length ≤ x) (hl : li.length < 1000) : cm_pr li x = 0 := by
  have e1 := ia_toInt x
  unfold cm_pr
  refine if_neg (fun q => ?_)
  rcases h with h | h
  · rw [ia_neg] at h; omega
  · rw [ia_le, ia_Elen (by omega)] at h; omega
theorem cm_rtk {v : Int32} (hret : ia_ret y = some .int) : ia_rt y [cm_e (.inl v)] (cm_s w) n = some (some (cm_e (.inl v)), cm_s w, n) := by
  obtain ⟨u, hu⟩ : ∃ u, u = ia_E v := ⟨_, rfl⟩
  have ee : cm_e (.inl v) = .inl (u, u) := by rw [hu]; rfl
  rw [ee]
  show (match ia_ret y with
    | some ty => ia_if (Nat.beq u u && ia_nar ty u) (some (some (Sum.inl (u, u)), cm_s w, n))
    | none => none) = _
  rw [hret]
  exact cm_ifk (by rw [cm_bq]; rfl) rfl
theorem cm_pb {nm : String} {li : List Int} {x : Int32} (hl : li.length < 1000) (X : ia_X p R s m args meth c y d) (hcode : cm_pc (ia_code y) i) (hret : ia_ret y = some .int) (hlink : Cond.fieldLink (ia_own (ia_cls y)) i "HungerDays$Plates" nm "[I" ∈ ia_TB) (hAr : ia_Ar nm li (va_A ws0 s.heap.size) s s.heap) : ia_WW p l e R s m args below meth c (MQ below (ia_Q D sa ws0 s.heap.size (some (cm_e (.inl (cm_pr li x))), cm_s w, n)) args s (ia_mc y) (ia_ms y) (va_A ws0 s.heap.size)) D sa (va_A ws0 s.heap.size) (ws0.map Prod.fst) (ia_maxL y) y 0 [some (cm_e (.inl x))] [] (cm_s w) n 0 0 := by
  obtain ⟨hx, hb, hml, hown, hts, -⟩ := id X
  obtain ⟨d0, d1, d4, d5, d8, d9, d12, d15, d16, d17, d20, d21⟩ := hcode
  obtain ⟨t, hZ, hT⟩ := hAr
  intro H locs ws tys ls l' vst hlv hL hSt hK hP hD hS hn hR hxx h1 h2
  cases hSt
  obtain ⟨v, g1, ⟨x', rfl, x1, x2⟩⟩ := hL 0 _ rfl
  have hxe : x' = x := ia_E_inj (Nat.le_antisymm x2 x1)
  subst hxe
  have hls := hlv.2.2 _ g1
  have fin : W p l e R s m args below meth c H locs 0 0 (MQ below (ia_Q D sa ws0 s.heap.size (some (cm_e (.inl (cm_pr li x'))), cm_s w, n)) args s (ia_mc y) (ia_ms y) (va_A ws0 s.heap.size)) (F0 m 21 ls [.int (cm_pr li x')]) := by
    exact ia_e1 (st := [cm_e (.inl (cm_pr li x'))]) (lv := [some (cm_e (.inl x'))]) (σ := cm_s w) (n := n) X d21 (cm_rtk hret) H locs ws tys ls l' [.int (cm_pr li x')] hlv hL ⟨_, _, rfl, ia_v_one _ _ _, rfl⟩ hK hP hD hS hn hR hxx h1 h2
  have out : (x' < 0 ∨ Int32.ofNat li.length ≤ x') → W p l e R s m args below meth c H locs 0 0 (MQ below (ia_Q D sa ws0 s.heap.size (some (cm_e (.inl (cm_pr li x'))), cm_s w, n)) args s (ia_mc y) (ia_ms y) (va_A ws0 s.heap.size)) (F0 m 20 ls []) := fun ho => by
    refine lv_iconst hx hb d20 (v := cm_pr li x') ?_ fin
    rw [cm_pr_out ho hl]
    rfl
  refine lv_iload_n hx hb d0 rfl hls ?_
  refine lv_if_lt hx hb d1 (tgt := 20) rfl (fun q => out (Or.inl q)) (fun q0 => ?_)
  refine lv_iload_n hx hb d4 rfl hls ?_
  refine va_gets hx hb hZ hS hown (X.hts hlink) (fun _ h9 => h9) d5 ?_
  refine va_tlen hx hb hT hS rfl d8 ?_
  refine lv_icmp_ge hx hb d9 (tgt := 20) rfl (fun q => out (Or.inr q)) (fun q1 => ?_)
  obtain ⟨hin, hpr⟩ := cm_pr_in q0 q1 hl
  refine va_gets hx hb hZ hS hown (X.hts hlink) (fun _ h9 => h9) d12 ?_
  refine lv_iload_n hx hb d15 rfl hls ?_
  refine va_ti hx hb hT hS hin (v := .int (cm_pr li x')) (by rw [hpr]) d16 ?_
  exact lv_goto hx hb d17 (tgt := 21) rfl fin
end CMP
set_option maxRecDepth 100000 in
theorem cm_pA : cm_pc (ia_code 176) 25 := by
  unfold cm_pc
  refine ⟨?_, ?_, ?_, ?_, ?_, ?_, ?_, ?_, ?_, ?_, ?_, ?_⟩ <;> decide +kernel
set_option maxRecDepth 100000 in
theorem cm_pH : cm_pc (ia_code 179) 22 := by
  unfold cm_pc
  refine ⟨?_, ?_, ?_, ?_, ?_, ?_, ?_, ?_, ?_, ?_, ?_, ?_⟩ <;> decide +kernel
set_option maxRecDepth 100000 in
theorem cm_pA1 : ia_ret 176 = some .int ∧ ia_maxL 176 = 1 ∧ ia_is 1034 (.fieldLink (ia_own (ia_cls 176)) 25 "HungerDays$Plates" "ALL" "[I") = true := ⟨by decide +kernel, by decide +kernel, by decide +kernel⟩
set_option maxRecDepth 100000 in
theorem cm_pH1 : ia_ret 179 = some .int ∧ ia_maxL 179 = 1 ∧ ia_is 1046 (.fieldLink (ia_own (ia_cls 179)) 22 "HungerDays$Plates" "HOW_MANY" "[I") = true := ⟨by decide +kernel, by decide +kernel, by decide +kernel⟩
/-- every call of the plain machine that ends is a contract -/
theorem cm_met : ∀ d : Nat, cm_Mets (cm_C d) d
  | 0 => fun y as w o h => h.elim
  | d + 1 => by
    intro y as w o h hok n l D sa vs ws tys sz hvs hn hR
    obtain ⟨e1, e2, e3, e4, e5, e6, e7, e8⟩ := ia_okM_eq hok
    refine Met.ofW (cc := ia_code y) (maxL := ia_maxL y) (ret := ia_ret y) (ws' := ia_TB) e4 (by rw [ia_ws, e1]) ?_
    intro p e s m args below meth c s₁ B hml hv
    obtain ⟨rfl, hszz, hP, hK, hD0, hN⟩ := hv
    subst hszz
    have hown : s.vm.findClass (ia_nm y).cls = some m.cls := findClass_of_methodNamed B.named
    have X : ia_X p (headSpec (ia_ws y) (ia_rm (d + 1) y)).room s m vs.toArray meth c y d := ⟨B.exec, B.bytes, hml, by rw [← e3]; exact hown, atoms_spec (ws := ia_ws y) B.pre, B.notSynchronized, B.returns, rfl, rfl, rfl, rfl, fun hi => ((name_of_methodNamed B.named B.method).1).trans hi, hok⟩
    rw [lg_entry_eq]
    suffices key : ia_sz (cm_es as) ≤ ia_maxL y ∧ ia_WW p l e (headSpec (ia_ws y) (ia_rm (d + 1) y)).room s m vs.toArray below meth c (MQ below (ia_Q D sa ws s.heap.size (o.1.map cm_e, cm_s o.2, n)) vs.toArray s (ia_mc y) (ia_ms y) (va_A ws s.heap.size)) D sa (va_A ws s.heap.size) (ws.map Prod.fst) (ia_maxL y) y 0 (cm_el (cm_ent y as)) [] (cm_s w) n 0 0 by
      obtain ⟨hsz, hW⟩ := key
      have hl := lv_entry vs (n := ia_maxL y) (by rw [ia_sl hvs]; exact hsz)
      refine hW s.heap [] ws tys _ _ [] hl (fun i a hi => ?_) rfl hK hP hD0.self va_S.rf hn hR ⟨[], by rw [List.append_nil]⟩ (Nat.zero_le _) (Nat.zero_le _)
      rw [cm_ent_el] at hi
      obtain ⟨v, g1, g2⟩ := ia_ent_ok 0 hvs i a (ia_pad_ok _ _ i hi)
      rw [Nat.zero_add] at g1
      exact ⟨v, g1, g2⟩
    rcases h with h | ⟨hsz, F, hF⟩
    · rcases h with ⟨rfl, x, rfl, rfl⟩ | ⟨rfl, x, rfl, rfl⟩
      · refine ⟨by rw [cm_pA1.2.1]; exact Nat.le_refl _, ?_⟩
        have he : cm_el (cm_ent 176 [.inl x]) = [some (cm_e (.inl x))] := by
          rw [cm_ent_el, cm_pA1.2.1]
          rfl
        rw [he]
        exact cm_pb (by decide) X cm_pA cm_pA1.1 (ia_is_in cm_pA1.2.2) hN.2.2.2.2.2.2.2.1
      · refine ⟨by rw [cm_pH1.2.1]; exact Nat.le_refl _, ?_⟩
        have he : cm_el (cm_ent 179 [.inl x]) = [some (cm_e (.inl x))] := by
          rw [cm_ent_el, cm_pH1.2.1]
          rfl
        rw [he]
        exact cm_pb (by decide) X cm_pH cm_pH1.1 (ia_is_in cm_pH1.2.2) hN.2.2.2.2.2.2.2.2
    · exact ⟨hsz, cm_body (l := l) (e := e) (below := below) (cm_met d) X hN F 0 _ [] w hF⟩
