/-! ## the tables' words, by their places -/
noncomputable def ia_TB : List Cond := lw_tbl.filter goodWord
theorem ia_w_in {p : Nat} {w : Cond} (h : ia_w p = w) (hn : w ≠ .returned) : w ∈ lw_tbl := by
  unfold ia_w at h
  cases hp : ia_at lw_tbl p with
  | none => rw [hp] at h; exact absurd h.symm hn
  | some z =>
    rw [hp] at h
    rw [ia_at_eq] at hp
    have hz : z = w := h
    rw [← hz]
    exact List.mem_of_getElem? hp
theorem ia_w_tb {p : Nat} {w : Cond} (h : ia_w p = w) (hn : w ≠ .returned) (hg : goodWord w = true) : w ∈ ia_TB := List.mem_filter.mpr ⟨ia_w_in h hn, hg⟩
noncomputable def ia_own (c : Nat) : String := ia_ow.getD c ""
noncomputable def ia_is (w : Nat) (c : Cond) : Bool := decide (ia_w w = c) && (goodWord c && decide (c ≠ .returned))
theorem ia_is_in {p : Nat} {w : Cond} (h : ia_is p w = true) : w ∈ ia_TB := by
  unfold ia_is at h
  simp only [Bool.and_eq_true, decide_eq_true_eq] at h
  exact ia_w_tb h.1 h.2.2 h.2.1
/-- a class: its words stand in the tables -/
noncomputable def ia_okC (ci : Nat) : Bool := match vwCl[ci]?, ia_Cp[ci]? with
  | some q, some r => decide (q.1 = ia_own ci) && (ia_is r.1 (.instantiable q.1 q.2.2) && (ia_is r.2.1 (.initialized q.1) && ((List.range q.2.2).all (fun k => ia_is (r.2.2.getD k 0) (u_lay q.1 q.2.1 k)))))
  | _, _ => false
set_option maxRecDepth 100000 in
theorem ia_okC_all : (List.range 13).all ia_okC = true := by decide +kernel
theorem ia_okC_at {ci : Nat} {q : vw_C} (hc : vwCl[ci]? = some q) : (∀ w ∈ u_ws q.1 q.2.1 q.2.2, w ∈ ia_TB) ∧ Cond.instantiable q.1 q.2.2 ∈ ia_TB ∧ Cond.initialized q.1 ∈ ia_TB ∧ q.1 = ia_own ci := by
  have hl : ci < 13 := (List.getElem?_eq_some_iff.mp hc).1
  have h := List.all_eq_true.mp ia_okC_all ci (List.mem_range.mpr hl)
  unfold ia_okC at h
  rw [hc] at h
  split at h
  · rename_i q' r heq hr
    cases heq
    simp only [Bool.and_eq_true, decide_eq_true_eq] at h
    obtain ⟨h0, h⟩ := h
    refine ⟨fun w hw => ?_, ia_is_in h.1, ia_is_in h.2.1, h0⟩
    obtain ⟨k, hk, rfl⟩ := List.mem_map.mp hw
    exact ia_is_in (List.all_eq_true.mp h.2.2 k hk)
  · cases h
/-- a field's kind -/
noncomputable def ia_kt (kd : Nat) (ty : Option FieldType) : Bool := match ty with
  | some .int => Nat.beq kd 0
  | some .boolean => Nat.beq kd 1
  | some .long => Nat.beq kd 2
  | some (.object _) => Nat.beq kd 3 || Nat.beq kd 7
  | some (.array _) => Nat.beq kd 3 || Nat.beq kd 7
  | _ => false
noncomputable def ia_okM (k : Nat) : Bool := k2_isCode (ia_cw k) && (goodWord (ia_cw k) && (decide ((ia_nm k).cls = ia_own (ia_cls k)) && (plainName (ia_nm k).cls && (ia_is (ia_mt k).2.1 (.initialized (ia_nm k).cls) && (decide ((ia_nm k).cls ≠ "java/lang/invoke/MethodHandle") && (decide ((ia_nm k).cls ≠ "java/lang/invoke/VarHandle") && Nat.ble (ia_maxL k) 20))))))
noncomputable def ia_okI (c : Nat) (q : Nat × Nat × Nat × Nat × Nat × Nat) : Bool := match q with
  | (i, 0, ci, sl, kd, p) => (match vwCl[ci]? with
    | some r => Nat.blt sl r.2.2 && (ia_is p (.fieldLink (ia_own c) i (r.2.1 sl).1 (r.2.1 sl).2.1 (r.2.1 sl).2.2.1) && (decide ((r.2.1 sl).2.2.2 = Nat.ble 4 kd) && (decide ((r.2.1 sl).1 = r.1) && (decide (r.1 = ia_own ci) && ia_kt kd (parseFieldDescriptor (r.2.1 sl).2.2.1)))))
    | none => false)
  | (i, 1, y, 0, _, p) => ia_okM y && (ia_is p (.methodLink (ia_own c) i (ia_nm y)) && (ia_is (ia_mt y).2.2.1 (.instanceMethod (ia_nm y)) && (ia_is (ia_mt y).2.2.2.1 (.selects (ia_nm y).cls (ia_nm y) (ia_nm y)) && (Nat.blt (ia_cls y) 18 && decide ((parseMethodDescriptor (ia_nm y).desc).map (fun d => d.parameters.length + 1) = some (ia_na y))))))
  | (i, 1, y, 1, _, p) => ia_okM y && (ia_is p (.methodLink (ia_own c) i (ia_nm y)) && (ia_is (ia_mt y).2.2.1 (.static (ia_nm y)) && decide ((parseMethodDescriptor (ia_nm y).desc).map (fun d => d.parameters.length) = some (ia_na y))))
  | (i, 1, y, 2, _, p) => ia_okM y && (ia_is p (.methodLink (ia_own c) i (ia_nm y)) && (ia_is (ia_mt y).2.2.1 (.instanceMethod (ia_nm y)) && (decide ((ia_nm y).name = "<init>" ∧ ia_ret y = none) && decide ((parseMethodDescriptor (ia_nm y).desc).map (fun d => d.parameters.length + 1) = some (ia_na y)))))
  | (i, 1, y, 3, _, p) => ia_okM y && (decide (ia_w p = .methodLinkNest (ia_own c) i (ia_nm y) RX11) && (decide (p ∈ ia_Np) && (ia_is (ia_mt y).2.2.1 (.instanceMethod (ia_nm y)) && (decide ((ia_nm y).name = "<init>" ∧ ia_ret y = none) && decide ((parseMethodDescriptor (ia_nm y).desc).map (fun d => d.parameters.length + 1) = some (ia_na y))))))
  | (i, 2, _, _, _, p) => ia_is p (.methodLink (ia_own c) i Lib.objectInit)
  | (i, 3, _, _, _, p) => ia_is p (.methodLink (ia_own c) i arraycopyName)
  | (i, 6, ci, _, _, p) => (match vwCl[ci]? with
    | some r => ia_is p (.classLink (ia_own c) i r.1)
    | none => false)
  | (i, 7, _, _, _, p) => ia_is p (.methodLink (ia_own c) i Lib.Math.min.name)
  | (i, 17, _, _, _, p) => ia_is p (.methodLink (ia_own c) i Lib.Math.max.name)
  | (i, 8, v, _, _, p) => ia_is p (.constant (ia_own c) i (ia_D v)) && Nat.beq (ia_E (ia_D v)) v
  | (i, 9, v, _, _, p) => ia_is p (.constantLong (ia_own c) i (Int64.ofNat v))
  | (i, 10, _, _, _, _) => Nat.beq c 5 && Nat.beq i 19
  | (i, 11, _, _, _, p) => ia_is p (.fieldLink (ia_own c) i "java/lang/String" "value" "[B")
  | (i, 12, _, _, _, p) => ia_is p (.fieldLink (ia_own c) i "java/lang/String" "coder" "B")
  | (i, 13, _, _, _, p) => ia_is p (.fieldLink (ia_own c) i "java/lang/String" "COMPACT_STRINGS" "Z")
  | (i, 14, _, _, _, p) => ia_is p (.fieldLink (ia_own c) i "jdk/internal/util/Preconditions" "SIOOBE_FORMATTER" "Ljava/util/function/BiFunction;")
  | _ => false
noncomputable def ia_po (c : Nat) : List (Nat × Nat × Nat × Nat × Nat × Nat) := (ia_at ia_Po c).getD []
theorem ia_all_split {α : Type} {f : α → Bool} {l : List α} (k : Nat) (h1 : (l.take k).all f = true) (h2 : (l.drop k).all f = true) : l.all f = true := by
  rw [← List.take_append_drop k l, List.all_append, h1, h2]
  rfl
set_option maxRecDepth 100000 in
theorem ia_okI_0_0 : ((ia_po 0).take 30).all (ia_okI 0) = true := by decide +kernel
set_option maxRecDepth 100000 in
theorem ia_okI_0_1 : ((ia_po 0).drop 30).all (ia_okI 0) = true := by decide +kernel
theorem ia_okI_0 : (ia_po 0).all (ia_okI 0) = true := ia_all_split 30 ia_okI_0_0 (ia_okI_0_1)
set_option maxRecDepth 100000 in
theorem ia_okI_1 : (ia_po 1).all (ia_okI 1) = true := by decide +kernel
set_option maxRecDepth 100000 in
theorem ia_okI_2 : (ia_po 2).all (ia_okI 2) = true := by decide +kernel
set_option maxRecDepth 100000 in
theorem ia_okI_3 : (ia_po 3).all (ia_okI 3) = true := by decide +kernel
set_option maxRecDepth 100000 in
theorem ia_okI_4 : (ia_po 4).all (ia_okI 4) = true := by decide +kernel
set_option maxRecDepth 100000 in
theorem ia_okI_5 : (ia_po 5).all (ia_okI 5) = true := by decide +kernel
set_option maxRecDepth 100000 in
theorem ia_okI_6_0 : ((ia_po 6).take 30).all (ia_okI 6) = true := by decide +kernel
set_option maxRecDepth 100000 in
theorem ia_okI_6_1 : ((ia_po 6).drop 30).all (ia_okI 6) = true := by decide +kernel
theorem ia_okI_6 : (ia_po 6).all (ia_okI 6) = true := ia_all_split 30 ia_okI_6_0 (ia_okI_6_1)
set_option maxRecDepth 100000 in
theorem ia_okI_7_0 : ((ia_po 7).take 30).all (ia_okI 7) = true := by decide +kernel
set_option maxRecDepth 100000 in
theorem ia_okI_7_1 : ((ia_po 7).drop 30).all (ia_okI 7) = true := by decide +kernel
theorem ia_okI_7 : (ia_po 7).all (ia_okI 7) = true := ia_all_split 30 ia_okI_7_0 (ia_okI_7_1)
set_option maxRecDepth 100000 in
theorem ia_okI_8_0 : ((ia_po 8).take 30).all (ia_okI 8) = true := by decide +kernel
set_option maxRecDepth 100000 in
theorem ia_okI_8_1 : ((ia_po 8).drop 30).all (ia_okI 8) = true := by decide +kernel
theorem ia_okI_8 : (ia_po 8).all (ia_okI 8) = true := ia_all_split 30 ia_okI_8_0 (ia_okI_8_1)
set_option maxRecDepth 100000 in
theorem ia_okI_9 : (ia_po 9).all (ia_okI 9) = true := by decide +kernel
set_option maxRecDepth 100000 in
theorem ia_okI_10_0 : ((ia_po 10).take 30).all (ia_okI 10) = true := by decide +kernel
set_option maxRecDepth 100000 in
theorem ia_okI_10_1 : ((ia_po 10).drop 30).all (ia_okI 10) = true := by decide +kernel
theorem ia_okI_10 : (ia_po 10).all (ia_okI 10) = true := ia_all_split 30 ia_okI_10_0 (ia_okI_10_1)
set_option maxRecDepth 100000 in
theorem ia_okI_11_0 : ((ia_po 11).take 30).all (ia_okI 11) = true := by decide +kernel
set_option maxRecDepth 100000 in
theorem ia_okI_11_1 : (((ia_po 11).drop 30).take 30).all (ia_okI 11) = true := by decide +kernel
set_option maxRecDepth 100000 in
theorem ia_okI_11_2 : ((((ia_po 11).drop 30).drop 30).take 30).all (ia_okI 11) = true := by decide +kernel
set_option maxRecDepth 100000 in
theorem ia_okI_11_3 : (((((ia_po 11).drop 30).drop 30).drop 30).take 30).all (ia_okI 11) = true := by decide +kernel
set_option maxRecDepth 100000 in
theorem ia_okI_11_4 : (((((ia_po 11).drop 30).drop 30).drop 30).drop 30).all (ia_okI 11) = true := by decide +kernel
theorem ia_okI_11 : (ia_po 11).all (ia_okI 11) = true := ia_all_split 30 ia_okI_11_0 (ia_all_split 30 ia_okI_11_1 (ia_all_split 30 ia_okI_11_2 (ia_all_split 30 ia_okI_11_3 (ia_okI_11_4))))
set_option maxRecDepth 100000 in
theorem ia_okI_12_0 : ((ia_po 12).take 30).all (ia_okI 12) = true := by decide +kernel
set_option maxRecDepth 100000 in
theorem ia_okI_12_1 : (((ia_po 12).drop 30).take 30).all (ia_okI 12) = true := by decide +kernel
set_option maxRecDepth 100000 in
theorem ia_okI_12_2 : ((((ia_po 12).drop 30).drop 30).take 30).all (ia_okI 12) = true := by decide +kernel
set_option maxRecDepth 100000 in
theorem ia_okI_12_3 : (((((ia_po 12).drop 30).drop 30).drop 30).take 30).all (ia_okI 12) = true := by decide +kernel
set_option maxRecDepth 100000 in
theorem ia_okI_12_4 : (((((ia_po 12).drop 30).drop 30).drop 30).drop 30).all (ia_okI 12) = true := by decide +kernel
theorem ia_okI_12 : (ia_po 12).all (ia_okI 12) = true := ia_all_split 30 ia_okI_12_0 (ia_all_split 30 ia_okI_12_1 (ia_all_split 30 ia_okI_12_2 (ia_all_split 30 ia_okI_12_3 (ia_okI_12_4))))
set_option maxRecDepth 100000 in
theorem ia_okI_13 : (ia_po 13).all (ia_okI 13) = true := by decide +kernel
set_option maxRecDepth 100000 in
theorem ia_okI_14 : (ia_po 14).all (ia_okI 14) = true := by decide +kernel
set_option maxRecDepth 100000 in
theorem ia_okI_15 : (ia_po 15).all (ia_okI 15) = true := by decide +kernel
set_option maxRecDepth 100000 in
theorem ia_okI_16 : (ia_po 16).all (ia_okI 16) = true := by decide +kernel
set_option maxRecDepth 100000 in
theorem ia_okI_17 : (ia_po 17).all (ia_okI 17) = true := by decide +kernel
theorem ia_okI_all : ∀ c, c < 18 → (ia_po c).all (ia_okI c) = true
  | 0, _ => ia_okI_0
  | 1, _ => ia_okI_1
  | 2, _ => ia_okI_2
  | 3, _ => ia_okI_3
  | 4, _ => ia_okI_4
  | 5, _ => ia_okI_5
  | 6, _ => ia_okI_6
  | 7, _ => ia_okI_7
  | 8, _ => ia_okI_8
  | 9, _ => ia_okI_9
  | 10, _ => ia_okI_10
  | 11, _ => ia_okI_11
  | 12, _ => ia_okI_12
  | 13, _ => ia_okI_13
  | 14, _ => ia_okI_14
  | 15, _ => ia_okI_15
  | 16, _ => ia_okI_16
  | 17, _ => ia_okI_17
  | c + 18, h => absurd h (by omega)
set_option maxRecDepth 100000 in
theorem ia_okM_0 : (List.range 50).all (fun k => ia_okM (k + 0)) = true := by decide +kernel
set_option maxRecDepth 100000 in
theorem ia_okM_50 : (List.range 50).all (fun k => ia_okM (k + 50)) = true := by decide +kernel
set_option maxRecDepth 100000 in
theorem ia_okM_100 : (List.range 50).all (fun k => ia_okM (k + 100)) = true := by decide +kernel
set_option maxRecDepth 100000 in
theorem ia_okM_150 : (List.range 50).all (fun k => ia_okM (k + 150)) = true := by decide +kernel
set_option maxRecDepth 100000 in
theorem ia_okM_200 : (List.range 50).all (fun k => ia_okM (k + 200)) = true := by decide +kernel
set_option maxRecDepth 100000 in
theorem ia_okM_250 : (List.range 41).all (fun k => ia_okM (k + 250)) = true := by decide +kernel
theorem ia_okM_at (k : Nat) (h : k < 291) : ia_okM k = true := by
  have go : ∀ a n : Nat, (List.range n).all (fun j => ia_okM (j + a)) = true → a ≤ k → k < a + n → ia_okM k = true := fun a n hz h1 h2 => by
    have := List.all_eq_true.mp hz (k - a) (List.mem_range.mpr (by omega))
    rw [show k - a + a = k from by omega] at this
    exact this
  rcases Nat.lt_or_ge k 50 with h0 | h0
  · exact go 0 50 ia_okM_0 (by omega) (by omega)
  rcases Nat.lt_or_ge k 100 with h50 | h50
  · exact go 50 50 ia_okM_50 (by omega) (by omega)
  rcases Nat.lt_or_ge k 150 with h100 | h100
  · exact go 100 50 ia_okM_100 (by omega) (by omega)
  rcases Nat.lt_or_ge k 200 with h150 | h150
  · exact go 150 50 ia_okM_150 (by omega) (by omega)
  rcases Nat.lt_or_ge k 250 with h200 | h200
  · exact go 200 50 ia_okM_200 (by omega) (by omega)
  exact go 250 41 ia_okM_250 (by omega) (by omega)
theorem ia_lk_in : ∀ (l : List (Nat × Nat × Nat × Nat × Nat × Nat)) {i : Nat} {r : Nat × Nat × Nat × Nat × Nat}, ia_lk l i = some r → (i, r) ∈ l
  | [], _, _, h => by cases h
  | a :: l, i, r, h => by
    have h' : (match Nat.beq a.1 i with
      | true => some a.2
      | false => ia_lk l i) = some r := h
    split at h'
    · rename_i q
      cases h'
      have := ia_beq q
      subst this
      exact List.mem_cons_self
    · exact List.mem_cons_of_mem _ (ia_lk_in l h')
theorem ia_pl_ok {c i : Nat} {r : Nat × Nat × Nat × Nat × Nat} (h : ia_pl c i = some r) : ia_okI c (i, r) = true := by
  unfold ia_pl at h
  have h1 := ia_lk_in _ h
  by_cases hc : c < 18
  · exact List.all_eq_true.mp (ia_okI_all c hc) _ h1
  · have h0 : ia_at ia_Po c = none := by
      rw [ia_at_eq]
      have hl : ia_Po.length = 18 := by decide +kernel
      exact List.getElem?_eq_none (by omega)
    rw [h0] at h1
    cases h1
/-- the code's word, taken apart -/
theorem ia_cw_eq {k : Nat} (h : k2_isCode (ia_cw k) = true) : ia_cw k = .code (ia_nm k) (ia_code k) (ia_maxL k) (ia_ret k) := by
  unfold ia_nm ia_code ia_maxL ia_ret
  generalize ia_cw k = w at h
  cases w <;> first | rfl | cases h
theorem ia_okM_eq {k : Nat} (h : ia_okM k = true) : ia_cw k = .code (ia_nm k) (ia_code k) (ia_maxL k) (ia_ret k) ∧ ia_cw k ∈ ia_TB ∧ (ia_nm k).cls = ia_own (ia_cls k) ∧ plainName (ia_nm k).cls = true ∧ Cond.initialized (ia_nm k).cls ∈ ia_TB ∧ (ia_nm k).cls ≠ "java/lang/invoke/MethodHandle" ∧ (ia_nm k).cls ≠ "java/lang/invoke/VarHandle" ∧ ia_maxL k ≤ 20 := by
  unfold ia_okM at h
  simp only [Bool.and_eq_true, decide_eq_true_eq] at h
  obtain ⟨h1, h2, h3, h4, h5, h6, h7, h8⟩ := h
  have e := ia_cw_eq h1
  exact ⟨e, ia_w_tb (p := (ia_mt k).1) rfl (by rw [e]; intro z; cases z) h2, h3, h4, ia_is_in h5, h6, h7, ia_ble h8⟩
theorem ia_good {w w2 : Cond} (h : w2 ∈ ia_TB) : GoodIn (w :: ia_TB) (w2 :: ia_TB) := by
  intro z hz
  have hz' : z ∈ ia_TB := by
    rcases List.mem_cons.mp hz with rfl | q
    · exact h
    · exact q
  exact ⟨List.mem_cons_of_mem _ hz', good_of_word (List.mem_filter.mp hz').2⟩
theorem ia_good0 {w2 : Cond} (h : w2 ∈ ia_TB) : GoodIn lw_tbl (w2 :: ia_TB) := by
  intro z hz
  have hz' : z ∈ ia_TB := by
    rcases List.mem_cons.mp hz with rfl | q
    · exact h
    · exact q
  exact ⟨(List.mem_filter.mp hz').1, good_of_word (List.mem_filter.mp hz').2⟩
set_option maxRecDepth 100000 in
theorem ia_oi : ia_is 144 (.instanceMethod Lib.objectInit) = true := by decide +kernel
set_option maxRecDepth 100000 in
theorem ia_oc : ia_is 145 (.code Lib.objectInit ⟨#[0xb1]⟩ 1 none) = true := by decide +kernel
set_option maxRecDepth 100000 in
theorem ia_an : ia_is 828 (.native arraycopyName) = true := by decide +kernel
set_option maxRecDepth 100000 in
theorem ia_ast : ia_is 827 (.static arraycopyName) = true := by decide +kernel
set_option maxRecDepth 100000 in
theorem ia_asy : ia_is 132 (.initialized "java/lang/System") = true := by decide +kernel
set_option maxRecDepth 100000 in
theorem ia_mms : ia_is 716 (.static Lib.Math.min.name) = true := by decide +kernel
set_option maxRecDepth 100000 in
theorem ia_mxs : ia_is 932 (.static Lib.Math.max.name) = true := by decide +kernel
set_option maxRecDepth 100000 in
theorem ia_mxc : ia_is 933 (.code Lib.Math.max.name Lib.Math.max.code 2 (some .int)) = true := by decide +kernel
set_option maxRecDepth 100000 in
theorem ia_mmi : ia_is 131 (.initialized "java/lang/Math") = true := by decide +kernel
set_option maxRecDepth 100000 in
theorem ia_mmc : ia_is 717 (.code Lib.Math.min.name Lib.Math.min.code 2 (some .int)) = true := by decide +kernel
set_option maxRecDepth 100000 in
theorem ia_aci : ia_is 251 (.arrayClass .int) = true := by decide +kernel
set_option maxRecDepth 100000 in
theorem ia_acj : ia_is 252 (.arrayClass .long) = true := by decide +kernel
set_option maxRecDepth 100000 in
theorem ia_acb : ia_is 253 (.arrayClass .byte) = true := by decide +kernel
set_option maxRecDepth 100000 in
theorem ia_acz : ia_is 1637 (.arrayClass .boolean) = true := by decide +kernel
/-! what an entry of a pool says -/
theorem ia_ok0 {c i ci sl kd p : Nat} (h : ia_okI c (i, 0, ci, sl, kd, p) = true) : ∃ r : vw_C, vwCl[ci]? = some r ∧ sl < r.2.2 ∧ Cond.fieldLink (ia_own c) i (r.2.1 sl).1 (r.2.1 sl).2.1 (r.2.1 sl).2.2.1 ∈ ia_TB ∧ (r.2.1 sl).2.2.2 = Nat.ble 4 kd ∧ (r.2.1 sl).1 = r.1 ∧ r.1 = ia_own ci ∧ ia_kt kd (parseFieldDescriptor (r.2.1 sl).2.2.1) = true := by
  have h' : (match vwCl[ci]? with
    | some r => Nat.blt sl r.2.2 && (ia_is p (.fieldLink (ia_own c) i (r.2.1 sl).1 (r.2.1 sl).2.1 (r.2.1 sl).2.2.1) && (decide ((r.2.1 sl).2.2.2 = Nat.ble 4 kd) && (decide ((r.2.1 sl).1 = r.1) && (decide (r.1 = ia_own ci) && ia_kt kd (parseFieldDescriptor (r.2.1 sl).2.2.1)))))
    | none => false) = true := h
  cases hv : vwCl[ci]? with
  | none => rw [hv] at h'; cases h'
  | some r =>
    rw [hv] at h'
    simp only [Bool.and_eq_true, decide_eq_true_eq] at h'
    obtain ⟨h1, h2, h3, h4, h5, h6⟩ := h'
    exact ⟨r, rfl, ia_blt h1, ia_is_in h2, h3, h4, h5, h6⟩
theorem ia_ok1v {c i y k p : Nat} (h : ia_okI c (i, 1, y, 0, k, p) = true) : ia_okM y = true ∧ Cond.methodLink (ia_own c) i (ia_nm y) ∈ ia_TB ∧ Cond.instanceMethod (ia_nm y) ∈ ia_TB ∧ Cond.selects (ia_nm y).cls (ia_nm y) (ia_nm y) ∈ ia_TB ∧ ia_cls y < 18 ∧ (parseMethodDescriptor (ia_nm y).desc).map (fun d => d.parameters.length + 1) = some (ia_na y) := by
  have h' : (ia_okM y && (ia_is p (.methodLink (ia_own c) i (ia_nm y)) && (ia_is (ia_mt y).2.2.1 (.instanceMethod (ia_nm y)) && (ia_is (ia_mt y).2.2.2.1 (.selects (ia_nm y).cls (ia_nm y) (ia_nm y)) && (Nat.blt (ia_cls y) 18 && decide ((parseMethodDescriptor (ia_nm y).desc).map (fun d => d.parameters.length + 1) = some (ia_na y))))))) = true := h
  simp only [Bool.and_eq_true, decide_eq_true_eq] at h'
  obtain ⟨h1, h2, h3, h4, h5, h6⟩ := h'
  exact ⟨h1, ia_is_in h2, ia_is_in h3, ia_is_in h4, ia_blt h5, h6⟩
theorem ia_ok1s {c i y k p : Nat} (h : ia_okI c (i, 1, y, 1, k, p) = true) : ia_okM y = true ∧ Cond.methodLink (ia_own c) i (ia_nm y) ∈ ia_TB ∧ Cond.static (ia_nm y) ∈ ia_TB ∧ (parseMethodDescriptor (ia_nm y).desc).map (fun d => d.parameters.length) = some (ia_na y) := by
  have h' : (ia_okM y && (ia_is p (.methodLink (ia_own c) i (ia_nm y)) && (ia_is (ia_mt y).2.2.1 (.static (ia_nm y)) && decide ((parseMethodDescriptor (ia_nm y).desc).map (fun d => d.parameters.length) = some (ia_na y))))) = true := h
  simp only [Bool.and_eq_true, decide_eq_true_eq] at h'
  obtain ⟨h1, h2, h3, h6⟩ := h'
  exact ⟨h1, ia_is_in h2, ia_is_in h3, h6⟩
theorem ia_ok1i {c i y k p : Nat} (h : ia_okI c (i, 1, y, 2, k, p) = true) : ia_okM y = true ∧ Cond.methodLink (ia_own c) i (ia_nm y) ∈ ia_TB ∧ Cond.instanceMethod (ia_nm y) ∈ ia_TB ∧ ((ia_nm y).name = "<init>" ∧ ia_ret y = none) ∧ (parseMethodDescriptor (ia_nm y).desc).map (fun d => d.parameters.length + 1) = some (ia_na y) := by
  have h' : (ia_okM y && (ia_is p (.methodLink (ia_own c) i (ia_nm y)) && (ia_is (ia_mt y).2.2.1 (.instanceMethod (ia_nm y)) && (decide ((ia_nm y).name = "<init>" ∧ ia_ret y = none) && decide ((parseMethodDescriptor (ia_nm y).desc).map (fun d => d.parameters.length + 1) = some (ia_na y)))))) = true := h
  simp only [Bool.and_eq_true, decide_eq_true_eq] at h'
  obtain ⟨h1, h2, h3, h4, h6⟩ := h'
  exact ⟨h1, ia_is_in h2, ia_is_in h3, h4, h6⟩
theorem ia_ok1n {c i y k p : Nat} (h : ia_okI c (i, 1, y, 3, k, p) = true) : ia_okM y = true ∧ ia_w p = .methodLinkNest (ia_own c) i (ia_nm y) RX11 ∧ p ∈ ia_Np ∧ Cond.instanceMethod (ia_nm y) ∈ ia_TB ∧ ((ia_nm y).name = "<init>" ∧ ia_ret y = none) ∧ (parseMethodDescriptor (ia_nm y).desc).map (fun d => d.parameters.length + 1) = some (ia_na y) := by
  have h' : (ia_okM y && (decide (ia_w p = .methodLinkNest (ia_own c) i (ia_nm y) RX11) && (decide (p ∈ ia_Np) && (ia_is (ia_mt y).2.2.1 (.instanceMethod (ia_nm y)) && (decide ((ia_nm y).name = "<init>" ∧ ia_ret y = none) && decide ((parseMethodDescriptor (ia_nm y).desc).map (fun d => d.parameters.length + 1) = some (ia_na y))))))) = true := h
  simp only [Bool.and_eq_true, decide_eq_true_eq] at h'
  obtain ⟨h1, h2, h3, h4, h5, h6⟩ := h'
  exact ⟨h1, h2, h3, ia_is_in h4, h5, h6⟩
theorem ia_ok6 {c i ci b k p : Nat} (h : ia_okI c (i, 6, ci, b, k, p) = true) : ∃ r : vw_C, vwCl[ci]? = some r ∧ Cond.classLink (ia_own c) i r.1 ∈ ia_TB := by
  have h' : (match vwCl[ci]? with
    | some r => ia_is p (.classLink (ia_own c) i r.1)
    | none => false) = true := h
  cases hv : vwCl[ci]? with
  | none => rw [hv] at h'; cases h'
  | some r => rw [hv] at h'; exact ⟨r, rfl, ia_is_in h'⟩
theorem ia_ok8 {c i v b k p : Nat} (h : ia_okI c (i, 8, v, b, k, p) = true) : Cond.constant (ia_own c) i (ia_D v) ∈ ia_TB ∧ ia_E (ia_D v) = v := by
  have h' : (ia_is p (.constant (ia_own c) i (ia_D v)) && Nat.beq (ia_E (ia_D v)) v) = true := h
  rw [Bool.and_eq_true] at h'
  exact ⟨ia_is_in h'.1, ia_beq h'.2⟩
