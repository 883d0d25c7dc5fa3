set_option maxRecDepth 100000 in
theorem xm_93fb0463 : ia_maxL 60 = 2 := by decide +kernel
set_option maxRecDepth 100000 in
theorem xd_89c1b42a : decode (ia_code 60) 0 = .ok (.aload_n 0, 1) := fdd_d (by decide +kernel)
set_option maxRecDepth 100000 in
theorem xd_9023154e : decode (ia_code 60) 1 = .ok (.getfield 64, 3) := fdd_d (by decide +kernel)
set_option maxRecDepth 100000 in
theorem xf_5dc03ec7 : wk_gf 60 64 2 5 0 = true := by decide +kernel
set_option maxRecDepth 100000 in
theorem xd_438fc170 : decode (ia_code 60) 4 = .ok (.iconst 4, 1) := fdd_d (by decide +kernel)
set_option maxRecDepth 100000 in
theorem xd_d5c3260d : decode (ia_code 60) 5 = .ok (.if_icmp .ne 15, 3) := fdd_d (by decide +kernel)
set_option maxRecDepth 100000 in
theorem xd_67921ee6 : decode (ia_code 60) 20 = .ok (.iconst 0, 1) := fdd_d (by decide +kernel)
set_option maxRecDepth 100000 in
theorem xd_6ef70eab : decode (ia_code 60) 21 = .ok (.ireturn, 1) := fdd_d (by decide +kernel)
set_option maxRecDepth 100000 in
theorem xr_ea079708 : ia_ret 60 = some .boolean := by decide +kernel
set_option maxRecDepth 100000 in
theorem xd_8978f70c : decode (ia_code 60) 8 = .ok (.aload_n 0, 1) := fdd_d (by decide +kernel)
set_option maxRecDepth 100000 in
theorem xd_82f4f39c : decode (ia_code 60) 9 = .ok (.getfield 70, 3) := fdd_d (by decide +kernel)
set_option maxRecDepth 100000 in
theorem xf_97ab46fd : wk_gf 60 70 2 10 0 = true := by decide +kernel
set_option maxRecDepth 100000 in
theorem xd_d9affc1d : decode (ia_code 60) 12 = .ok (.iload_n 1, 1) := fdd_d (by decide +kernel)
set_option maxRecDepth 100000 in
theorem xd_88810e31 : decode (ia_code 60) 13 = .ok (.if_icmp .ne 7, 3) := fdd_d (by decide +kernel)
set_option maxRecDepth 100000 in
theorem xd_5ee654eb : decode (ia_code 60) 16 = .ok (.iconst 1, 1) := fdd_d (by decide +kernel)
set_option maxRecDepth 100000 in
theorem xd_3ba5cb01 : decode (ia_code 60) 17 = .ok (.goto 4, 3) := fdd_d (by decide +kernel)
/-! ## the class's reader: what it takes (wip/p4/gen9vf.py) -/
section TXM
variable {C : Nat → List cm_V → cm_W → cm_O → Prop} {y pc : Nat} {lv : cm_L} {st : List cm_V} {w : cm_W} {Q : cm_O → Prop}
theorem aw_lload_n {i : Fin 4} {x : Int64} (hd : decode (ia_code y) pc = .ok (.lload_n i, 1)) (hv : ia_at lv i.val = some (some (.inr (.inl x)))) (k : cm_X C y (pc + 1) lv (.inr (.inl x) :: st) w Q) : cm_X C y pc lv st w Q := wk_ld (kd := 1) hd rfl hv rfl k
theorem wk_aload {i : Nat} {r : Nat} (hd : decode (ia_code y) pc = .ok (.aload i, 2)) (hv : ia_at lv i = some (some (.inr (.inr (some r))))) (k : cm_X C y (pc + 2) lv (.inr (.inr (some r)) :: st) w Q) : cm_X C y pc lv st w Q := wk_ld (kd := 2) hd rfl hv rfl k
theorem aw_astore {i : Nat} {r : Nat} (hd : decode (ia_code y) pc = .ok (.astore i, 2)) (hm : Nat.blt i (ia_maxL y) = true) (hn : ia_nl (cm_el lv) i = true) (k : cm_X C y (pc + 2) (lv.set i (some (.inr (.inr (some r))))) st w Q) : cm_X C y pc lv (.inr (.inr (some r)) :: st) w Q := wk_sto (kd := 2) hd rfl hm rfl hn k
noncomputable def aw_al (n len : Nat) : Bool := match cm_sh n with
  | some c => (Nat.ble 50 c.1 && (Nat.ble c.1 55 && Nat.blt c.2.1 2147483648)) && Nat.beq c.2.1 len
  | none => false
theorem aw_alen {n len : Nat} (hg : aw_al n len = true) (hd : decode (ia_code y) pc = .ok (.arraylength, 1)) (k : cm_X C y (pc + 1) lv (.inl (Int32.ofNat len) :: st) w Q) : cm_X C y pc lv (.inr (.inr (some n)) :: st) w Q := by
  unfold aw_al at hg
  split at hg
  · rename_i c hc
    rw [Bool.and_eq_true] at hg
    have e := ia_beq hg.2
    subst e
    refine cm_X_do (q := (pc + 1, lv, .inl (Int32.ofNat c.2.1) :: st, w)) hd ?_ k
    show (match cm_sh n with
      | some c => ia_if (Nat.ble 50 c.1 && (Nat.ble c.1 55 && Nat.blt c.2.1 2147483648)) (cm_nx (Nat.add pc 1) lv (.inl (Int32.ofNat c.2.1) :: st) w)
      | none => none) = _
    rw [hc]
    exact cm_ifk hg.1 rfl
  · cases hg
end TXM
theorem tx_go_b {B : Int → Bool} {T : Nat → Int} {n : Nat} : ∀ f p, p ≤ n → p ≤ tx_go B T n f p ∧ tx_go B T n f p ≤ n := by
  intro f
  induction f with
  | zero => exact fun p h => ⟨Nat.le_refl p, h⟩
  | succ f ih =>
    intro p h
    show p ≤ (if p < n ∧ B (T p) = true then tx_go B T n f (p + 1) else p) ∧ (if p < n ∧ B (T p) = true then tx_go B T n f (p + 1) else p) ≤ n
    by_cases c : p < n ∧ B (T p) = true
    · rw [if_pos c]
      have g := ih (p + 1) c.1
      omega
    · rw [if_neg c]
      omega
theorem tx_re_gt {T : Nat → Int} {n s : Nat} (h : s < n) (ha : tx_Sm (T s) ∨ tx_Dg (T s)) : s < tx_re T n s ∧ tx_re T n s ≤ n := by
  obtain ⟨f, hf⟩ : ∃ f, n - s = f + 1 := ⟨n - s - 1, by omega⟩
  unfold tx_re
  rw [hf]
  have e : tx_go tx_an T n (f + 1) s = tx_go tx_an T n f (s + 1) := if_pos ⟨h, decide_eq_true ha⟩
  rw [e]
  have g := tx_go_b (B := tx_an) (T := T) (n := n) f (s + 1) h
  omega
theorem tx_rn_b {T : Nat → Int} {s k : Nat} : (tx_rn T s k).2.1 = s ∧ (tx_rn T s k).2.2.1 = s + k := by
  unfold tx_rn
  split
  · exact ⟨rfl, rfl⟩
  · split
    · exact ⟨rfl, rfl⟩
    · exact ⟨rfl, rfl⟩
theorem tx_tk_b {T : Nat → Int} {n m p : Nat} (hp : p ≤ n) (h : 1 ≤ (tx_tk T n m p).1 ∧ (tx_tk T n m p).1 ≤ 3) : p < (tx_tk T n m p).2.2.1 ∧ (tx_tk T n m p).2.2.1 ≤ n ∧ p ≤ (tx_tk T n m p).2.1 ∧ (tx_tk T n m p).2.1 < (tx_tk T n m p).2.2.1 ∧ (n ≤ m ∨ (tx_tk T n m p).2.1 < m) := by
  have hs := tx_go_b (B := tx_bl) (T := T) (n := n) (n - p) p hp
  rw [show tx_go tx_bl T n (n - p) p = tx_sk T n p from rfl] at hs
  unfold tx_tk at h ⊢
  by_cases c1 : m < n ∧ m ≤ tx_sk T n p
  · rw [if_pos c1] at h
    exact absurd (show 4 ≤ 3 from h.2) (by decide)
  · rw [if_neg c1] at h ⊢
    by_cases c2 : n ≤ tx_sk T n p
    · rw [if_pos c2] at h
      exact absurd (show 1 ≤ 0 from h.1) (by decide)
    · rw [if_neg c2] at h ⊢
      by_cases c3 : tx_Sm (T (tx_sk T n p)) ∨ tx_Dg (T (tx_sk T n p))
      · rw [if_pos c3] at h ⊢
        have g := tx_re_gt (T := T) (n := n) (s := tx_sk T n p) (by omega) c3
        rw [tx_rn_b.1, tx_rn_b.2]
        omega
      · rw [if_neg c3] at h ⊢
        show p < tx_sk T n p + 1 ∧ tx_sk T n p + 1 ≤ n ∧ p ≤ tx_sk T n p ∧ tx_sk T n p < tx_sk T n p + 1 ∧ (n ≤ m ∨ tx_sk T n p < m)
        omega
theorem tx_tk_s {T : Nat → Int} {n m p : Nat} : (tx_tk T n m p).1 ≤ 4 := by
  unfold tx_tk
  split
  · exact Nat.le_refl 4
  · split
    · exact Nat.zero_le 4
    · split
      · unfold tx_rn
        split
        · exact (by decide : 1 ≤ 4)
        · split
          · exact (by decide : 2 ≤ 4)
          · exact Nat.le_refl 4
      · show (if tx_Sg (T (tx_sk T n p)) then 3 else 4) ≤ 4
        split
        · decide
        · exact Nat.le_refl 4
/-- the reader looks at the token from p on -/
def rd_L (w : cm_W) (T : Nat → Int) (n m p : Nat) : Prop := rd_T w T n m ∧ rd_C w (tx_tk T n m p) ∧ p ≤ n
/-- only the reader's places and its fault have changed -/
def rd_E (w w' : cm_W) : Prop := ∀ k i, ¬ (k = 2 ∧ 4 ≤ i ∧ i ≤ 12) → w'.1 k i = w.1 k i ∧ w'.2 k i = w.2 k i
theorem rd_E_rf (w : cm_W) : rd_E w w := fun _ _ _ => ⟨rfl, rfl⟩
theorem rd_E_tr {w w1 w2 : cm_W} (h1 : rd_E w w1) (h2 : rd_E w1 w2) : rd_E w w2 := fun k i h => ⟨(h2 k i h).1.trans (h1 k i h).1, (h2 k i h).2.trans (h1 k i h).2⟩
theorem rd_E_S {w w' : cm_W} (h : rd_S w w') : rd_E w w' := fun k i hk => h k i (by omega)
/-- a fault is told, nothing else has changed -/
def rd_B (w w' : cm_W) (k : Nat) (q : Int) : Prop := (w'.1 2 11).toInt = k ∧ (w'.1 2 12).toInt = q ∧ ∀ c i, ¬ (c = 2 ∧ (i = 11 ∨ i = 12)) → w'.1 c i = w.1 c i ∧ w'.2 c i = w.2 c i
theorem rd_E_B {w w' : cm_W} {k : Nat} {q : Int} (h : rd_B w w' k q) : rd_E w w' := fun k i hk => h.2.2 k i (by omega)
/-- what is wrong with a token where a number is wanted -/
def tx_num (t : Nat × Nat × Nat × Int × Nat) (lo hi : Int) : Nat := if t.1 = 2 then (if lo ≤ t.2.2.2.1 ∧ t.2.2.2.1 ≤ hi then 0 else 2) else 1
theorem rd_C_num {w : cm_W} {t : Nat × Nat × Nat × Int × Nat} (h : rd_C w t) : (t.1 = 2 ∧ (w.1 2 5).toInt = 3 ∧ (w.1 2 4).toInt = t.2.2.1 ∧ (w.1 2 9).toInt = t.2.2.2.1 ∧ 0 ≤ t.2.2.2.1 ∧ t.2.2.2.1 ≤ 999) ∨ (t.1 ≠ 2 ∧ (w.1 2 5).toInt ≠ 3) := by
  obtain ⟨_, h⟩ := h
  rcases h with ⟨a, b, _⟩ | ⟨a, b, _⟩ | ⟨a, b, c, _, d, e, f⟩ | ⟨a, b, _⟩ | ⟨a, _, b⟩
  · exact .inr ⟨by omega, by omega⟩
  · exact .inr ⟨by omega, by omega⟩
  · exact .inl ⟨a, b, c, d, e, f⟩
  · exact .inr ⟨by omega, by omega⟩
  · exact .inr ⟨by omega, by omega⟩
theorem rd_C_sign {w : cm_W} {t : Nat × Nat × Nat × Int × Nat} (h : rd_C w t) : (t.1 = 3 ∧ (w.1 2 5).toInt = 4 ∧ (w.1 2 4).toInt = t.2.2.1 ∧ (w.1 2 10).toInt = t.2.2.2.1) ∨ (t.1 ≠ 3 ∧ (w.1 2 5).toInt ≠ 4) := by
  obtain ⟨_, h⟩ := h
  rcases h with ⟨a, b, _⟩ | ⟨a, b, _⟩ | ⟨a, b, _⟩ | ⟨a, b, c, _, d⟩ | ⟨a, _, b⟩
  · exact .inr ⟨by omega, by omega⟩
  · exact .inr ⟨by omega, by omega⟩
  · exact .inr ⟨by omega, by omega⟩
  · exact .inl ⟨a, b, c, d⟩
  · exact .inr ⟨by omega, by omega⟩
theorem rf_new {w : cm_W} {k : Int32} (hf : (w.1 2 11).toInt = 0) : cm_C 1 63 [.inr (.inr (some 2)), .inl k] w (some (.inl (Int32.ofInt 0)), cm_u1 (cm_u1 w 2 11 k) 2 12 ((cm_u1 w 2 11 k).1 2 6)) := by
  have h : ∃ o, cm_C (0 + 1) 63 [.inr (.inr (some 2)), .inl k] w o ∧ (fun o : cm_O => o = (some (.inl (Int32.ofInt 0)), cm_u1 (cm_u1 w 2 11 k) 2 12 ((cm_u1 w 2 11 k).1 2 6))) o := by
    refine wk_entry (by rw [xm_d45b7eb3]; exact Nat.le_of_ble_eq_true rfl) ?_
    rw [show cm_ent 63 [.inr (.inr (some 2)), .inl k] = [some (.inr (.inr (some 2))), some (.inl k)] from by unfold cm_ent; rw [xm_d45b7eb3]; rfl]
    refine wk_aload_n xd_7b9659d2 rfl ?_
    refine wk_getI xf_cd55533c xd_27a577d3 ?_
    refine wk_if xd_94607c29 (t := 20) rfl (fun h4_0 => ?_) (fun h4_0 => ?_)
    · have h4_0 := aw_ne_t (a := ((w.1 2 11).toInt : Int)) (b := (0 : Int)) (show ((w.1 2 11)).toInt = ((w.1 2 11).toInt : Int) from rfl) hb_z h4_0
      exfalso
      omega
    · have h4_0 := aw_ne_f (a := ((w.1 2 11).toInt : Int)) (b := (0 : Int)) (show ((w.1 2 11)).toInt = ((w.1 2 11).toInt : Int) from rfl) hb_z h4_0
      refine wk_aload_n xd_0d2fc17c rfl ?_
      refine wk_iload_n xd_1c4ce029 rfl ?_
      refine wk_putI xf_017b273d (fun ci => wk_fitI ci) xd_b27f485d ?_
      refine wk_aload_n xd_0d582b03 rfl ?_
      refine wk_aload_n xd_962bc1d7 rfl ?_
      refine wk_getI xf_dee52514 xd_39e1e3ee ?_
      refine wk_putI xf_9ad0ab51 (fun ci => wk_fitI ci) xd_ff6de125 ?_
      refine wk_iconst xd_95c5f31e ?_
      exact wk_ireturn xd_5b1ab8f8 xr_b99dcc8c wk_z0 rfl
  obtain ⟨o, hC, rfl⟩ := h
  exact hC
theorem rf_old {w : cm_W} {k : Int32} {f : Int} (hf : (w.1 2 11).toInt = f) (hf0 : f ≠ 0) : cm_C 1 63 [.inr (.inr (some 2)), .inl k] w (some (.inl (Int32.ofInt 0)), w) := by
  have h : ∃ o, cm_C (0 + 1) 63 [.inr (.inr (some 2)), .inl k] w o ∧ (fun o : cm_O => o = (some (.inl (Int32.ofInt 0)), w)) o := by
    refine wk_entry (by rw [xm_d45b7eb3]; exact Nat.le_of_ble_eq_true rfl) ?_
    rw [show cm_ent 63 [.inr (.inr (some 2)), .inl k] = [some (.inr (.inr (some 2))), some (.inl k)] from by unfold cm_ent; rw [xm_d45b7eb3]; rfl]
    refine wk_aload_n xd_7b9659d2 rfl ?_
    refine wk_getI xf_cd55533c xd_27a577d3 ?_
    refine wk_if xd_94607c29 (t := 20) rfl (fun h4_1 => ?_) (fun h4_1 => ?_)
    · have h4_1 := aw_ne_t (a := ((w.1 2 11).toInt : Int)) (b := (0 : Int)) (show ((w.1 2 11)).toInt = ((w.1 2 11).toInt : Int) from rfl) hb_z h4_1
      refine wk_iconst xd_95c5f31e ?_
      exact wk_ireturn xd_5b1ab8f8 xr_b99dcc8c wk_z0 rfl
    · have h4_1 := aw_ne_f (a := ((w.1 2 11).toInt : Int)) (b := (0 : Int)) (show ((w.1 2 11)).toInt = ((w.1 2 11).toInt : Int) from rfl) hb_z h4_1
      exfalso
      omega
  obtain ⟨o, hC, rfl⟩ := h
  exact hC
theorem rf_B {w : cm_W} {k : Int32} {c : Nat} {q : Int} (hk : k.toInt = c) (hq : (w.1 2 6).toInt = q) : rd_B w (cm_u1 (cm_u1 w 2 11 k) 2 12 ((cm_u1 w 2 11 k).1 2 6)) c q := ⟨hk, hq, fun c i h => ⟨(hs_u1_ne (by omega)).trans (hs_u1_ne (by omega)), rfl⟩⟩
theorem ig_ok {w : cm_W} : ∃ x, cm_C 1 184 [.inr (.inr (some 2))] w (some (.inl x), w) ∧ ((x.toInt = 1 ∧ (w.1 2 11).toInt = 0) ∨ (x.toInt = 0 ∧ (w.1 2 11).toInt ≠ 0)) := by
  have h : ∃ o, cm_C (0 + 1) 184 [.inr (.inr (some 2))] w o ∧ (fun o : cm_O => ∃ x, o = (some (.inl x), w) ∧ ((x.toInt = 1 ∧ (w.1 2 11).toInt = 0) ∨ (x.toInt = 0 ∧ (w.1 2 11).toInt ≠ 0))) o := by
    refine wk_entry (by rw [xm_25196642]; exact Nat.le_of_ble_eq_true rfl) ?_
    rw [show cm_ent 184 [.inr (.inr (some 2))] = [some (.inr (.inr (some 2)))] from by unfold cm_ent; rw [xm_25196642]; rfl]
    refine wk_aload_n xd_d0edafde rfl ?_
    refine wk_getI xf_33da9ce3 xd_dfcec48d ?_
    refine wk_if xd_a275c911 (t := 11) rfl (fun h4_0 => ?_) (fun h4_0 => ?_)
    · have h4_0 := aw_ne_t (a := ((w.1 2 11).toInt : Int)) (b := (0 : Int)) rfl hb_z h4_0
      refine wk_iconst xd_5f7358ef ?_
      exact wk_ireturn xd_b3b7c274 xr_2eac88e6 wk_z0 ⟨_, rfl, .inr ⟨by decide, by omega⟩⟩
    · have h4_0 := aw_ne_f (a := ((w.1 2 11).toInt : Int)) (b := (0 : Int)) rfl hb_z h4_0
      refine wk_iconst xd_2d31003c ?_
      refine wk_goto xd_bbd626a9 (t := 12) rfl ?_
      exact wk_ireturn xd_b3b7c274 xr_2eac88e6 wk_z1 ⟨_, rfl, .inl ⟨by decide, by omega⟩⟩
  obtain ⟨o, hC, x, rfl, a⟩ := h
  exact ⟨x, hC, a⟩
theorem is_ok {w : cm_W} {t : Nat × Nat × Nat × Int × Nat} {k : Int32} {c : Int} (hk : k.toInt = c) (hC0 : rd_C w t) : ∃ x, cm_C 1 60 [.inr (.inr (some 2)), .inl k] w (some (.inl x), w) ∧ ((x.toInt = 1 ∧ t.1 = 3 ∧ t.2.2.2.1 = c) ∨ (x.toInt = 0 ∧ ¬ (t.1 = 3 ∧ t.2.2.2.1 = c))) := by
  have hR := rd_C_sign hC0
  have h : ∃ o, cm_C (0 + 1) 60 [.inr (.inr (some 2)), .inl k] w o ∧ (fun o : cm_O => ∃ x, o = (some (.inl x), w) ∧ ((x.toInt = 1 ∧ t.1 = 3 ∧ t.2.2.2.1 = c) ∨ (x.toInt = 0 ∧ ¬ (t.1 = 3 ∧ t.2.2.2.1 = c)))) o := by
    refine wk_entry (by rw [xm_93fb0463]; exact Nat.le_of_ble_eq_true rfl) ?_
    rw [show cm_ent 60 [.inr (.inr (some 2)), .inl k] = [some (.inr (.inr (some 2))), some (.inl k)] from by unfold cm_ent; rw [xm_93fb0463]; rfl]
    refine wk_aload_n xd_89c1b42a rfl ?_
    refine wk_getI xf_5dc03ec7 xd_9023154e ?_
    refine wk_iconst xd_438fc170 ?_
    refine wk_icmp xd_d5c3260d (t := 20) rfl (fun h5_0 => ?_) (fun h5_0 => ?_)
    · have h5_0 := aw_ne_t (a := ((w.1 2 5).toInt : Int)) (b := (4 : Int)) rfl (show ((Int32.ofInt 4)).toInt = 4 from by decide) h5_0
      refine wk_iconst xd_67921ee6 ?_
      exact wk_ireturn xd_6ef70eab xr_ea079708 wk_z0 ⟨_, rfl, .inr ⟨by decide, by omega⟩⟩
    · have h5_0 := aw_ne_f (a := ((w.1 2 5).toInt : Int)) (b := (4 : Int)) rfl (show ((Int32.ofInt 4)).toInt = 4 from by decide) h5_0
      refine wk_aload_n xd_8978f70c rfl ?_
      refine wk_getI xf_97ab46fd xd_82f4f39c ?_
      refine wk_iload_n xd_d9affc1d rfl ?_
      refine wk_icmp xd_88810e31 (t := 20) rfl (fun h13_1 => ?_) (fun h13_1 => ?_)
      · have h13_1 := aw_ne_t (a := ((w.1 2 10).toInt : Int)) (b := (c : Int)) rfl hk h13_1
        refine wk_iconst xd_67921ee6 ?_
        exact wk_ireturn xd_6ef70eab xr_ea079708 wk_z0 ⟨_, rfl, .inr ⟨by decide, by omega⟩⟩
      · have h13_1 := aw_ne_f (a := ((w.1 2 10).toInt : Int)) (b := (c : Int)) rfl hk h13_1
        refine wk_iconst xd_5ee654eb ?_
        refine wk_goto xd_3ba5cb01 (t := 21) rfl ?_
        exact wk_ireturn xd_6ef70eab xr_ea079708 wk_z1 ⟨_, rfl, .inl ⟨by decide, by omega, by omega⟩⟩
  obtain ⟨o, hC, x, rfl, a⟩ := h
  exact ⟨x, hC, a⟩
theorem tn_ok {w : cm_W} {T : Nat → Int} {n m p : Nat} {a b : Int32} {lo hi : Int} (ha : a.toInt = lo) (hb : b.toInt = hi) (hL : rd_L w T n m p) (hg : (w.1 2 11).toInt = 0) : ∃ x w', cm_C 3 189 [.inr (.inr (some 2)), .inl a, .inl b] w (some (.inl x), w') ∧ ((tx_num (tx_tk T n m p) lo hi = 0 ∧ (tx_tk T n m p).1 = 2 ∧ lo ≤ (tx_tk T n m p).2.2.2.1 ∧ (tx_tk T n m p).2.2.2.1 ≤ hi ∧ x.toInt = (tx_tk T n m p).2.2.2.1 ∧ rd_L w' T n m (tx_tk T n m p).2.2.1 ∧ rd_S w w') ∨ (tx_num (tx_tk T n m p) lo hi ≠ 0 ∧ x.toInt = -1 ∧ rd_B w w' (tx_num (tx_tk T n m p) lo hi) (tx_tk T n m p).2.1)) := by
  have hst : (w.1 2 6).toInt = (tx_tk T n m p).2.1 := hL.2.1.1
  have h : ∃ o, cm_C (2 + 1) 189 [.inr (.inr (some 2)), .inl a, .inl b] w o ∧ (fun o : cm_O => ∃ x w', o = (some (.inl x), w') ∧ ((tx_num (tx_tk T n m p) lo hi = 0 ∧ (tx_tk T n m p).1 = 2 ∧ lo ≤ (tx_tk T n m p).2.2.2.1 ∧ (tx_tk T n m p).2.2.2.1 ≤ hi ∧ x.toInt = (tx_tk T n m p).2.2.2.1 ∧ rd_L w' T n m (tx_tk T n m p).2.2.1 ∧ rd_S w w') ∨ (tx_num (tx_tk T n m p) lo hi ≠ 0 ∧ x.toInt = -1 ∧ rd_B w w' (tx_num (tx_tk T n m p) lo hi) (tx_tk T n m p).2.1))) o := by
    refine wk_entry (by rw [xm_ade3567c]; exact Nat.le_of_ble_eq_true rfl) ?_
    rw [show cm_ent 189 [.inr (.inr (some 2)), .inl a, .inl b] = [some (.inr (.inr (some 2))), some (.inl a), some (.inl b), none] from by unfold cm_ent; rw [xm_ade3567c]; rfl]
    rcases rd_C_num hL.2.1 with ⟨h2, hkd, hat, hv, hv0, hv9⟩ | ⟨h2, hkd⟩
    · skip
      refine wk_aload_n xd_484db22b rfl ?_
      refine wk_getI xf_47306fc9 xd_605b40b6 ?_
      refine wk_iconst xd_1cb4b75e ?_
      refine wk_icmp xd_3f822996 (t := 17) rfl (fun h5_0 => ?_) (fun h5_0 => ?_)
      · have h5_0 := aw_eq_t (a := ((w.1 2 5).toInt : Int)) (b := (3 : Int)) rfl (show ((Int32.ofInt 3)).toInt = 3 from by decide) h5_0
        refine wk_aload_n xd_5225f117 rfl ?_
        refine wk_getI xf_98967174 xd_3751656f ?_
        refine wk_iload_n xd_8092d098 rfl ?_
        refine wk_icmp xd_22f04202 (t := 33) rfl (fun h22_1 => ?_) (fun h22_1 => ?_)
        · have h22_1 := aw_lt_t (a := ((tx_tk T n m p).2.2.2.1 : Int)) (b := (lo : Int)) (show ((w.1 2 9)).toInt = ((tx_tk T n m p).2.2.2.1 : Int) from hv) ha h22_1
          refine wk_aload_n xd_8b429c8b rfl ?_
          refine wk_iconst xd_1b0c3253 ?_
          refine wk_call (kd := 0) (i := 80) xd_6858d3b4 rfl (wk_cal (as := [.inr (.inr (some 2)), .inl (Int32.ofInt 2)]) (t := []) xl_726d40f2 rfl xn_b5464d7d xc_49a83f99 rfl rfl xv_780065b9 rfl) (cm_C_mono (by omega) (rf_new (w := w) (k := (Int32.ofInt 2)) hg)) ?_
          refine wk_pop xd_3cfdab2b ?_
          refine wk_aload_n xd_666d0c44 rfl ?_
          obtain ⟨g40, hCg40, hg40⟩ := ig_ok (w := (cm_u1 (cm_u1 w 2 11 (Int32.ofInt 2)) 2 12 ((cm_u1 w 2 11 (Int32.ofInt 2)).1 2 6)))
          have eg40 : ((cm_u1 (cm_u1 w 2 11 (Int32.ofInt 2)) 2 12 ((cm_u1 w 2 11 (Int32.ofInt 2)).1 2 6)).1 2 11).toInt = (2 : Int) := (show (((cm_u1 (cm_u1 w 2 11 (Int32.ofInt 2)) 2 12 ((cm_u1 w 2 11 (Int32.ofInt 2)).1 2 6)).1 2 11)).toInt = (2 : Int) from (show ((Int32.ofInt 2)).toInt = 2 from by decide))
          refine wk_call (kd := 0) (i := 87) xd_3f2cfabb rfl (wk_cal (as := [.inr (.inr (some 2))]) (t := []) xl_be386658 rfl xn_59a494c6 xc_7b6444b6 rfl rfl xv_433dc8e2 rfl) (cm_C_mono (by omega) hCg40) ?_
          refine wk_if xd_f8817d60 (t := 48) rfl (fun h43_2 => ?_) (fun h43_2 => ?_)
          · have h43_2 := aw_ne_t (a := ((g40).toInt : Int)) (b := (0 : Int)) rfl hb_z h43_2
            exfalso
            omega
          · have h43_2 := aw_ne_f (a := ((g40).toInt : Int)) (b := (0 : Int)) rfl hb_z h43_2
            refine wk_iconst xd_65b20ee7 ?_
            refine wk_ireturn xd_0720fbd3 xr_df255d1e rfl ⟨_, _, rfl, .inr ?_⟩
            have e : tx_num (tx_tk T n m p) lo hi = 2 := by
              unfold tx_num
              rw [if_pos h2, if_neg (by omega)]
            rw [e]
            exact ⟨by decide, by decide, rf_B (by decide) hst⟩
        · have h22_1 := aw_lt_f (a := ((tx_tk T n m p).2.2.2.1 : Int)) (b := (lo : Int)) (show ((w.1 2 9)).toInt = ((tx_tk T n m p).2.2.2.1 : Int) from hv) ha h22_1
          refine wk_aload_n xd_e7ad8bd6 rfl ?_
          refine wk_getI xf_98967174 xd_82d67786 ?_
          refine wk_iload_n xd_c78be96e rfl ?_
          refine wk_icmp xd_e7ae1253 (t := 39) rfl (fun h30_3 => ?_) (fun h30_3 => ?_)
          · have h30_3 := aw_le_t (a := ((tx_tk T n m p).2.2.2.1 : Int)) (b := (hi : Int)) (show ((w.1 2 9)).toInt = ((tx_tk T n m p).2.2.2.1 : Int) from hv) hb h30_3
            refine wk_aload_n xd_666d0c44 rfl ?_
            obtain ⟨g40, hCg40, hg40⟩ := ig_ok (w := w)
            have eg40 : (w.1 2 11).toInt = (0 : Int) := (show ((w.1 2 11)).toInt = (0 : Int) from hg)
            refine wk_call (kd := 0) (i := 87) xd_3f2cfabb rfl (wk_cal (as := [.inr (.inr (some 2))]) (t := []) xl_be386658 rfl xn_59a494c6 xc_7b6444b6 rfl rfl xv_433dc8e2 rfl) (cm_C_mono (by omega) hCg40) ?_
            refine wk_if xd_f8817d60 (t := 48) rfl (fun h43_4 => ?_) (fun h43_4 => ?_)
            · have h43_4 := aw_ne_t (a := ((g40).toInt : Int)) (b := (0 : Int)) rfl hb_z h43_4
              have hnb := tx_tk_b (m := m) (T := T) hL.2.2 ⟨by omega, by omega⟩
              refine wk_aload_n xd_cc06d1e7 rfl ?_
              refine wk_getI xf_98967174 xd_5f53c528 ?_
              refine wk_istore_n xd_77ce6333 (by rw [xm_ade3567c]; rfl) rfl ?_
              have hnn : (tx_tk T n m p).2.2.1 ≤ n := hnb.2.1
              refine wk_aload_n xd_3b7fcedb rfl ?_
              obtain ⟨w54_, hCw54_, hSw54_, hRw54_⟩ := cn_ok (w := w) (p := (tx_tk T n m p).2.2.1) hL.1 hat hnn
              refine wk_call (kd := 0) (i := 55) xd_0616def4 rfl (wk_cal (as := [.inr (.inr (some 2))]) (t := []) xl_14b5b052 rfl xn_568f4fa7 xc_1d38a579 rfl rfl xv_65cfb41b rfl) (cm_C_mono (by omega) hCw54_) ?_
              refine wk_iload_n xd_2680c6f5 rfl ?_
              refine wk_ireturn xd_5c1d103d xr_df255d1e rfl ⟨_, _, rfl, .inl ?_⟩
              refine ⟨?_, h2, by omega, by omega, hv, ⟨rd_T_S hL.1 hSw54_, hRw54_, hnn⟩, hSw54_⟩
              unfold tx_num
              rw [if_pos h2, if_pos (by omega)]
            · have h43_4 := aw_ne_f (a := ((g40).toInt : Int)) (b := (0 : Int)) rfl hb_z h43_4
              exfalso
              omega
          · have h30_3 := aw_le_f (a := ((tx_tk T n m p).2.2.2.1 : Int)) (b := (hi : Int)) (show ((w.1 2 9)).toInt = ((tx_tk T n m p).2.2.2.1 : Int) from hv) hb h30_3
            refine wk_aload_n xd_8b429c8b rfl ?_
            refine wk_iconst xd_1b0c3253 ?_
            refine wk_call (kd := 0) (i := 80) xd_6858d3b4 rfl (wk_cal (as := [.inr (.inr (some 2)), .inl (Int32.ofInt 2)]) (t := []) xl_726d40f2 rfl xn_b5464d7d xc_49a83f99 rfl rfl xv_780065b9 rfl) (cm_C_mono (by omega) (rf_new (w := w) (k := (Int32.ofInt 2)) hg)) ?_
            refine wk_pop xd_3cfdab2b ?_
            refine wk_aload_n xd_666d0c44 rfl ?_
            obtain ⟨g40, hCg40, hg40⟩ := ig_ok (w := (cm_u1 (cm_u1 w 2 11 (Int32.ofInt 2)) 2 12 ((cm_u1 w 2 11 (Int32.ofInt 2)).1 2 6)))
            have eg40 : ((cm_u1 (cm_u1 w 2 11 (Int32.ofInt 2)) 2 12 ((cm_u1 w 2 11 (Int32.ofInt 2)).1 2 6)).1 2 11).toInt = (2 : Int) := (show (((cm_u1 (cm_u1 w 2 11 (Int32.ofInt 2)) 2 12 ((cm_u1 w 2 11 (Int32.ofInt 2)).1 2 6)).1 2 11)).toInt = (2 : Int) from (show ((Int32.ofInt 2)).toInt = 2 from by decide))
            refine wk_call (kd := 0) (i := 87) xd_3f2cfabb rfl (wk_cal (as := [.inr (.inr (some 2))]) (t := []) xl_be386658 rfl xn_59a494c6 xc_7b6444b6 rfl rfl xv_433dc8e2 rfl) (cm_C_mono (by omega) hCg40) ?_
            refine wk_if xd_f8817d60 (t := 48) rfl (fun h43_5 => ?_) (fun h43_5 => ?_)
            · have h43_5 := aw_ne_t (a := ((g40).toInt : Int)) (b := (0 : Int)) rfl hb_z h43_5
              exfalso
              omega
            · have h43_5 := aw_ne_f (a := ((g40).toInt : Int)) (b := (0 : Int)) rfl hb_z h43_5
              refine wk_iconst xd_65b20ee7 ?_
              refine wk_ireturn xd_0720fbd3 xr_df255d1e rfl ⟨_, _, rfl, .inr ?_⟩
              have e : tx_num (tx_tk T n m p) lo hi = 2 := by
                unfold tx_num
                rw [if_pos h2, if_neg (by omega)]
              rw [e]
              exact ⟨by decide, by decide, rf_B (by decide) hst⟩
      · have h5_0 := aw_eq_f (a := ((w.1 2 5).toInt : Int)) (b := (3 : Int)) rfl (show ((Int32.ofInt 3)).toInt = 3 from by decide) h5_0
        exfalso
        omega
    · skip
      refine wk_aload_n xd_484db22b rfl ?_
      refine wk_getI xf_47306fc9 xd_605b40b6 ?_
      refine wk_iconst xd_1cb4b75e ?_
      refine wk_icmp xd_3f822996 (t := 17) rfl (fun h5_6 => ?_) (fun h5_6 => ?_)
      · have h5_6 := aw_eq_t (a := ((w.1 2 5).toInt : Int)) (b := (3 : Int)) rfl (show ((Int32.ofInt 3)).toInt = 3 from by decide) h5_6
        exfalso
        omega
      · have h5_6 := aw_eq_f (a := ((w.1 2 5).toInt : Int)) (b := (3 : Int)) rfl (show ((Int32.ofInt 3)).toInt = 3 from by decide) h5_6
        refine wk_aload_n xd_48f4f10d rfl ?_
        refine wk_iconst xd_94be35fe ?_
        refine wk_call (kd := 0) (i := 80) xd_b8746d3e rfl (wk_cal (as := [.inr (.inr (some 2)), .inl (Int32.ofInt 1)]) (t := []) xl_726d40f2 rfl xn_b5464d7d xc_49a83f99 rfl rfl xv_780065b9 rfl) (cm_C_mono (by omega) (rf_new (w := w) (k := (Int32.ofInt 1)) hg)) ?_
        refine wk_pop xd_8ca3d4b2 ?_
        refine wk_goto xd_2ebb84c5 (t := 39) rfl ?_
        refine wk_aload_n xd_666d0c44 rfl ?_
        obtain ⟨g40, hCg40, hg40⟩ := ig_ok (w := (cm_u1 (cm_u1 w 2 11 (Int32.ofInt 1)) 2 12 ((cm_u1 w 2 11 (Int32.ofInt 1)).1 2 6)))
        have eg40 : ((cm_u1 (cm_u1 w 2 11 (Int32.ofInt 1)) 2 12 ((cm_u1 w 2 11 (Int32.ofInt 1)).1 2 6)).1 2 11).toInt = (1 : Int) := (show (((cm_u1 (cm_u1 w 2 11 (Int32.ofInt 1)) 2 12 ((cm_u1 w 2 11 (Int32.ofInt 1)).1 2 6)).1 2 11)).toInt = (1 : Int) from (show ((Int32.ofInt 1)).toInt = 1 from by decide))
        refine wk_call (kd := 0) (i := 87) xd_3f2cfabb rfl (wk_cal (as := [.inr (.inr (some 2))]) (t := []) xl_be386658 rfl xn_59a494c6 xc_7b6444b6 rfl rfl xv_433dc8e2 rfl) (cm_C_mono (by omega) hCg40) ?_
        refine wk_if xd_f8817d60 (t := 48) rfl (fun h43_7 => ?_) (fun h43_7 => ?_)
        · have h43_7 := aw_ne_t (a := ((g40).toInt : Int)) (b := (0 : Int)) rfl hb_z h43_7
          exfalso
          omega
        · have h43_7 := aw_ne_f (a := ((g40).toInt : Int)) (b := (0 : Int)) rfl hb_z h43_7
          refine wk_iconst xd_65b20ee7 ?_
          refine wk_ireturn xd_0720fbd3 xr_df255d1e rfl ⟨_, _, rfl, .inr ?_⟩
          have e : tx_num (tx_tk T n m p) lo hi = 1 := by
            unfold tx_num
            rw [if_neg h2]
          rw [e]
          exact ⟨by decide, by decide, rf_B (by decide) hst⟩
  obtain ⟨o, hC, x, w', rfl, a⟩ := h
  exact ⟨x, w', hC, a⟩
