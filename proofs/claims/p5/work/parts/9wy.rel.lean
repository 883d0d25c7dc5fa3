/-! ## a line of the law: the class's call, then the reference's (wip/p4/gen9x.py) -/
def jQ2 (k : Nat) : Prop := k = 3 ∨ (5 ≤ k ∧ k ≤ 7) ∨ (132 ≤ k ∧ k ≤ 134) ∨ (159 ≤ k ∧ k ≤ 161) ∨ k = 189 ∨ k = 190 ∨ k = 202
def jF2 (w w' : cm_W) : Prop := ∀ k i, jQ2 k → w'.2 k i = w.2 k i
set_option maxRecDepth 100000 in
theorem jQ2_L {k : Nat} (h : jQ2 k) : u2_L k := by
  unfold jQ2 at h
  rcases (show k = 3 ∨ k = 5 ∨ k = 6 ∨ k = 7 ∨ k = 132 ∨ k = 133 ∨ k = 134 ∨ k = 159 ∨ k = 160 ∨ k = 161 ∨ k = 189 ∨ k = 190 ∨ k = 202 by omega) with rfl | rfl | rfl | rfl | rfl | rfl | rfl | rfl | rfl | rfl | rfl | rfl | rfl
  all_goals exact ⟨_, rfl, rfl⟩
theorem u2_q {w w' : cm_W} (h : u2_F w w') : jF2 w w' := fun k i hk => h k i (jQ2_L hk)
/-- an image of the valley as the reference keeps it -/
def mk_R (w : cm_W) (a b : Nat) (h : Nat → Int) (nm : Nat → Nat) : Prop := ps_Q tx_F (fun j => (w.1 201 (a + j)).toInt) (fun j => w.2 202 (b + j)) h nm
/-- both hold the same bytes, words, valley and images of valleys -/
def jRl (w : cm_W) : Prop := (∀ j, j < 940 → (w.1 185 j &&& ((Int16.ofInt 255).toInt32)).toInt = (w.1 1 j).toInt ∧ 0 ≤ (w.1 1 j).toInt ∧ (w.1 1 j).toInt ≤ 255) ∧ (∀ k, k < 22 → w.2 3 k = Int64.ofNat (tx_rw.getD k 0)) ∧ (∀ k, k < 22 → w.2 190 k = Int64.ofNat (tx_F (tx_rw.getD k 0))) ∧ (∃ h nm, vl_R w 4 h nm ∧ mv_R w h nm) ∧ ((w.1 130 0).toInt ≠ 0 → ∃ h nm, vl_R w 131 h nm ∧ mk_R w 0 0 h nm) ∧ ((w.1 157 0).toInt ≠ 0 → ∃ h nm, vl_R w 158 h nm ∧ mk_R w 301 16 h nm)
/-- what is so between two rounds -/
def jTw (w : cm_W) : Prop := (w.1 0 1).toInt = (w.1 184 2).toInt ∧ ((w.1 130 0).toInt = (w.1 203 0).toInt ∧ (w.1 157 0).toInt = (w.1 203 1).toInt) ∧ jRl w
def jIv (r : Nat) (w : cm_W) : Prop := jIw r w ∧ jTw w
theorem vl_R_f2 {w w' : cm_W} {v : Nat} {h : Nat → Int} {nm : Nat → Nat} (h1 : ∀ k i, v ≤ k → k ≤ v + 13 → w'.1 k i = w.1 k i) (h2 : ∀ k i, v + 1 ≤ k → k ≤ v + 3 → w'.2 k i = w.2 k i) (hR : vl_R w v h nm) : vl_R w' v h nm := by
  unfold vl_R at hR ⊢
  rw [vl_H_fr h1, vl_N_fr h2]
  exact hR
theorem mv_R_f2 {w w' : cm_W} {h : Nat → Int} {nm : Nat → Nat} (h1 : ∀ i, i < 79 → w'.1 186 i = w.1 186 i) (h2 : ∀ i, i < 16 → w'.2 189 i = w.2 189 i) (hR : mv_R w h nm) : mv_R w' h nm := ps_Q_eq hR (fun j hj => by show (w'.1 186 j).toInt = _; rw [h1 j hj]) (fun j hj => h2 j hj)
theorem mk_R_f2 {w w' : cm_W} {a b : Nat} {h : Nat → Int} {nm : Nat → Nat} (h1 : ∀ i, i < 79 → w'.1 201 (a + i) = w.1 201 (a + i)) (h2 : ∀ i, i < 16 → w'.2 202 (b + i) = w.2 202 (b + i)) (hR : mk_R w a b h nm) : mk_R w' a b h nm := ps_Q_eq hR (fun j hj => by show (w'.1 201 (a + j)).toInt = _; rw [h1 j hj]) (fun j hj => h2 j hj)
theorem jRl_fr {w w' : cm_W} (h : jRl w) (h1 : jFl w w') (h2 : jF2 w w') : jRl w' := by
  unfold jFl jQ1 at h1
  unfold jF2 jQ2 at h2
  obtain ⟨a1, a2, a3, ⟨hh, nm, a4, a5⟩, a6, a7⟩ := h
  refine ⟨fun j hj => by rw [h1 185 j (by omega), h1 1 j (by omega)]; exact a1 j hj, fun k hk => by rw [h2 3 k (by omega)]; exact a2 k hk, fun k hk => by rw [h2 190 k (by omega)]; exact a3 k hk, ⟨hh, nm, vl_R_f2 (fun k i p q => h1 k i (by omega)) (fun k i p q => h2 k i (by omega)) a4, mv_R_f2 (fun i hi => h1 186 i (by omega)) (fun i hi => h2 189 i (by omega)) a5⟩, fun z => ?_, fun z => ?_⟩
  · rw [h1 130 0 (by omega)] at z
    obtain ⟨hh, nm, b1, b2⟩ := a6 z
    exact ⟨hh, nm, vl_R_f2 (fun k i p q => h1 k i (by omega)) (fun k i p q => h2 k i (by omega)) b1, mk_R_f2 (fun i hi => h1 201 _ (by omega)) (fun i hi => h2 202 _ (by omega)) b2⟩
  · rw [h1 157 0 (by omega)] at z
    obtain ⟨hh, nm, b1, b2⟩ := a7 z
    exact ⟨hh, nm, vl_R_f2 (fun k i p q => h1 k i (by omega)) (fun k i p q => h2 k i (by omega)) b1, mk_R_f2 (fun i hi => h1 201 _ (by omega)) (fun i hi => h2 202 _ (by omega)) b2⟩
theorem jTw_fl {w w1 w2 : cm_W} (h : jTw w) (ht : (w2.1 0 1).toInt = (w2.1 184 2).toInt) (h1 : jFl w w1) (h2 : jFl w1 w2) (u1 : jF2 w w1) (u2 : jF2 w1 w2) : jTw w2 := by
  refine ⟨ht, ?_, jRl_fr (jRl_fr h.2.2 h1 u1) h2 u2⟩
  unfold jFl jQ1 at h1 h2
  rw [h2 130 0 (by omega), h2 157 0 (by omega), h2 203 0 (by omega), h2 203 1 (by omega), h1 130 0 (by omega), h1 157 0 (by omega), h1 203 0 (by omega), h1 203 1 (by omega)]
  exact h.2.1
def jLn (yx ym k : Nat) : Prop := ∀ (r : Nat) (w : cm_W) (as : List Int32), r ≤ 3000 → as.length = k → jIv r w → ∃ x w1 y w2, cm_C 24 yx (.inr (.inr (some 0)) :: as.map .inl) w (some (.inl x), w1) ∧ cm_C 24 ym (.inr (.inr (some 184)) :: as.map .inl) w1 (some (.inl y), w2) ∧ jIv (r + 2) w2
def jLe (yx ym k : Nat) : Prop := ∀ (r : Nat) (w : cm_W) (as : List Int32), r ≤ 3000 → as.length = k → jIv r w → ∃ x w1 y w2, cm_C 24 yx (.inr (.inr (some 0)) :: as.map .inl) w (some (.inl x), w1) ∧ cm_C 24 ym (.inr (.inr (some 184)) :: as.map .inl) w1 (some (.inl y), w2) ∧ jIv (r + 2) w2 ∧ x = y
theorem jLn_of {yx ym k : Nat} (h : jLe yx ym k) : jLn yx ym k := fun r w as h1 h2 h3 => by
  obtain ⟨x, w1, y, w2, a, b, c, -⟩ := h r w as h1 h2 h3
  exact ⟨x, w1, y, w2, a, b, c⟩
theorem ie_end : jLe 10 102 1 := by
  intro r w as hr hk h
  obtain ⟨h, hT⟩ := h
  obtain ⟨ht, -⟩ := id hT
  match as, hk with
  | [a1], _ =>
    obtain ⟨x, w1, hC1, h1, o1, tx, f1⟩ := ix_end (w := w) (a1 := a1) (show r ≤ 4000 by omega) h
    obtain ⟨y, w2, hC2, h2, o2, ty, f2⟩ := im_end (w := w1) (a1 := a1) (show r + 1 ≤ 4000 by omega) h1
    rw [o1] at ty
    rcases tx with ⟨c1, c2, tx, ex⟩ | ⟨c1, tx, ex⟩
    · rcases ty with ⟨c3, c4, ty, ey⟩ | ⟨c3, ty, ey⟩
      · exact ⟨x, w1, y, w2, hC1, hC2, ⟨h2, jTw_fl hT (by rw [o2, tx, ty]) f1 f2 (u2_q (u2_ok (y := 10) (by decide +kernel) hC1)) (u2_q (u2_ok (y := 102) (by decide +kernel) hC2))⟩, by rw [ex, ey]⟩
      · exact absurd ⟨c1, by omega⟩ c3
    · rcases ty with ⟨c3, c4, ty, ey⟩ | ⟨c3, ty, ey⟩
      · exact absurd ⟨c3, by omega⟩ c1
      · exact ⟨x, w1, y, w2, hC1, hC2, ⟨h2, jTw_fl hT (by rw [o2, tx, ty]; exact ht) f1 f2 (u2_q (u2_ok (y := 10) (by decide +kernel) hC1)) (u2_q (u2_ok (y := 102) (by decide +kernel) hC2))⟩, by rw [ex, ey]⟩
theorem il_end : jLn 10 102 1 := jLn_of ie_end
theorem il_fault : jLn 11 103 0 := by
  intro r w as hr hk h
  obtain ⟨h, hT⟩ := h
  obtain ⟨ht, -⟩ := id hT
  match as, hk with
  | [], _ =>
    obtain ⟨x, w1, hC1, h1, o1, tx, f1⟩ := ix_fault (w := w) (show r ≤ 4000 by omega) h
    obtain ⟨y, w2, hC2, h2, o2, ty, f2⟩ := im_fault (w := w1) (show r + 1 ≤ 4000 by omega) h1
    exact ⟨x, w1, y, w2, hC1, hC2, h2, jTw_fl hT (by rw [o2, tx, ty, o1]; exact ht) f1 f2 (u2_q (u2_ok (y := 11) (by decide +kernel) hC1)) (u2_q (u2_ok (y := 103) (by decide +kernel) hC2))⟩
theorem il_food : jLn 14 106 2 := by
  intro r w as hr hk h
  obtain ⟨h, hT⟩ := h
  obtain ⟨ht, -⟩ := id hT
  match as, hk with
  | [a1, a2], _ =>
    obtain ⟨x, w1, hC1, h1, o1, tx, f1⟩ := ix_food (w := w) (a1 := a1) (a2 := a2) (show r ≤ 4000 by omega) h
    obtain ⟨y, w2, hC2, h2, o2, ty, f2⟩ := im_food (w := w1) (a1 := a1) (a2 := a2) (show r + 1 ≤ 4000 by omega) h1
    exact ⟨x, w1, y, w2, hC1, hC2, h2, jTw_fl hT (by rw [o2, tx, ty, o1]; exact ht) f1 f2 (u2_q (u2_ok (y := 14) (by decide +kernel) hC1)) (u2_q (u2_ok (y := 106) (by decide +kernel) hC2))⟩
theorem il_meeting : jLn 28 127 2 := by
  intro r w as hr hk h
  obtain ⟨h, hT⟩ := h
  obtain ⟨ht, -⟩ := id hT
  match as, hk with
  | [a1, a2], _ =>
    obtain ⟨x, w1, hC1, h1, o1, tx, f1⟩ := ix_meeting (w := w) (a1 := a1) (a2 := a2) (show r ≤ 4000 by omega) h
    obtain ⟨y, w2, hC2, h2, o2, ty, f2⟩ := im_meeting (w := w1) (a1 := a1) (a2 := a2) (show r + 1 ≤ 4000 by omega) h1
    exact ⟨x, w1, y, w2, hC1, hC2, h2, jTw_fl hT (by rw [o2, tx, ty, o1]; exact ht) f1 f2 (u2_q (u2_ok (y := 28) (by decide +kernel) hC1)) (u2_q (u2_ok (y := 127) (by decide +kernel) hC2))⟩
theorem il_now : jLn 30 130 1 := by
  intro r w as hr hk h
  obtain ⟨h, hT⟩ := h
  obtain ⟨ht, -⟩ := id hT
  match as, hk with
  | [a1], _ =>
    obtain ⟨x, w1, hC1, h1, o1, tx, f1⟩ := ix_now (w := w) (a1 := a1) (show r ≤ 4000 by omega) h
    obtain ⟨y, w2, hC2, h2, o2, ty, f2⟩ := im_now (w := w1) (a1 := a1) (show r + 1 ≤ 4000 by omega) h1
    exact ⟨x, w1, y, w2, hC1, hC2, h2, jTw_fl hT (by rw [o2, tx, ty, o1]; exact ht) f1 f2 (u2_q (u2_ok (y := 30) (by decide +kernel) hC1)) (u2_q (u2_ok (y := 130) (by decide +kernel) hC2))⟩
theorem il_eat : jLn 9 101 2 := by
  intro r w as hr hk h
  obtain ⟨h, hT⟩ := h
  obtain ⟨ht, -⟩ := id hT
  match as, hk with
  | [a1, a2], _ =>
    obtain ⟨x, w1, hC1, h1, o1, tx, f1⟩ := ix_eat (w := w) (a1 := a1) (a2 := a2) (show r ≤ 4000 by omega) h
    obtain ⟨y, w2, hC2, h2, o2, ty, f2⟩ := im_eat (w := w1) (a1 := a1) (a2 := a2) (show r + 1 ≤ 4000 by omega) h1
    exact ⟨x, w1, y, w2, hC1, hC2, h2, jTw_fl hT (by rw [o2, tx, ty, o1]; exact ht) f1 f2 (u2_q (u2_ok (y := 9) (by decide +kernel) hC1)) (u2_q (u2_ok (y := 101) (by decide +kernel) hC2))⟩
theorem il_ail : jLn 1 90 1 := by
  intro r w as hr hk h
  obtain ⟨h, hT⟩ := h
  obtain ⟨ht, -⟩ := id hT
  match as, hk with
  | [a1], _ =>
    obtain ⟨x, w1, hC1, h1, o1, tx, f1⟩ := ix_ail (w := w) (a1 := a1) (show r ≤ 4000 by omega) h
    obtain ⟨y, w2, hC2, h2, o2, ty, f2⟩ := im_ail (w := w1) (a1 := a1) (show r + 1 ≤ 4000 by omega) h1
    exact ⟨x, w1, y, w2, hC1, hC2, h2, jTw_fl hT (by rw [o2, tx, ty, o1]; exact ht) f1 f2 (u2_q (u2_ok (y := 1) (by decide +kernel) hC1)) (u2_q (u2_ok (y := 90) (by decide +kernel) hC2))⟩
theorem il_mend : jLn 29 128 1 := by
  intro r w as hr hk h
  obtain ⟨h, hT⟩ := h
  obtain ⟨ht, -⟩ := id hT
  match as, hk with
  | [a1], _ =>
    obtain ⟨x, w1, hC1, h1, o1, tx, f1⟩ := ix_mend (w := w) (a1 := a1) (show r ≤ 4000 by omega) h
    obtain ⟨y, w2, hC2, h2, o2, ty, f2⟩ := im_mend (w := w1) (a1 := a1) (show r + 1 ≤ 4000 by omega) h1
    exact ⟨x, w1, y, w2, hC1, hC2, h2, jTw_fl hT (by rw [o2, tx, ty, o1]; exact ht) f1 f2 (u2_q (u2_ok (y := 29) (by decide +kernel) hC1)) (u2_q (u2_ok (y := 128) (by decide +kernel) hC2))⟩
theorem il_meet : jLn 27 126 1 := by
  intro r w as hr hk h
  obtain ⟨h, hT⟩ := h
  obtain ⟨ht, -⟩ := id hT
  match as, hk with
  | [a1], _ =>
    obtain ⟨x, w1, hC1, h1, o1, tx, f1⟩ := ix_meet (w := w) (a1 := a1) (show r ≤ 4000 by omega) h
    obtain ⟨y, w2, hC2, h2, o2, ty, f2⟩ := im_meet (w := w1) (a1 := a1) (show r + 1 ≤ 4000 by omega) h1
    exact ⟨x, w1, y, w2, hC1, hC2, h2, jTw_fl hT (by rw [o2, tx, ty, o1]; exact ht) f1 f2 (u2_q (u2_ok (y := 27) (by decide +kernel) hC1)) (u2_q (u2_ok (y := 126) (by decide +kernel) hC2))⟩
theorem il_hours : jLn 15 111 1 := by
  intro r w as hr hk h
  obtain ⟨h, hT⟩ := h
  obtain ⟨ht, -⟩ := id hT
  match as, hk with
  | [a1], _ =>
    obtain ⟨x, w1, hC1, h1, o1, tx, f1⟩ := ix_hours (w := w) (a1 := a1) (show r ≤ 4000 by omega) h
    obtain ⟨y, w2, hC2, h2, o2, ty, f2⟩ := im_hours (w := w1) (a1 := a1) (show r + 1 ≤ 4000 by omega) h1
    exact ⟨x, w1, y, w2, hC1, hC2, h2, jTw_fl hT (by rw [o2, tx, ty, o1]; exact ht) f1 f2 (u2_q (u2_ok (y := 15) (by decide +kernel) hC1)) (u2_q (u2_ok (y := 111) (by decide +kernel) hC2))⟩
theorem il_undo : jLn 46 149 0 := by
  intro r w as hr hk h
  obtain ⟨h, hT⟩ := h
  obtain ⟨ht, -⟩ := id hT
  match as, hk with
  | [], _ =>
    obtain ⟨x, w1, hC1, h1, o1, tx, f1⟩ := ix_undo (w := w) (show r ≤ 4000 by omega) h
    obtain ⟨y, w2, hC2, h2, o2, ty, f2⟩ := im_undo (w := w1) (show r + 1 ≤ 4000 by omega) h1
    exact ⟨x, w1, y, w2, hC1, hC2, h2, jTw_fl hT (by rw [o2, tx, ty, o1]; exact ht) f1 f2 (u2_q (u2_ok (y := 46) (by decide +kernel) hC1)) (u2_q (u2_ok (y := 149) (by decide +kernel) hC2))⟩
theorem il_on : jLn 32 132 1 := by
  intro r w as hr hk h
  obtain ⟨h, hT⟩ := h
  obtain ⟨ht, -⟩ := id hT
  match as, hk with
  | [a1], _ =>
    obtain ⟨x, w1, hC1, h1, o1, tx, f1⟩ := ix_on (w := w) (a1 := a1) (show r ≤ 4000 by omega) h
    obtain ⟨y, w2, hC2, h2, o2, ty, f2⟩ := im_on (w := w1) (a1 := a1) (show r + 1 ≤ 4000 by omega) h1
    exact ⟨x, w1, y, w2, hC1, hC2, h2, jTw_fl hT (by rw [o2, tx, ty, o1]; exact ht) f1 f2 (u2_q (u2_ok (y := 32) (by decide +kernel) hC1)) (u2_q (u2_ok (y := 132) (by decide +kernel) hC2))⟩
theorem il_common : jLn 6 98 0 := by
  intro r w as hr hk h
  obtain ⟨h, hT⟩ := h
  obtain ⟨ht, -⟩ := id hT
  match as, hk with
  | [], _ =>
    obtain ⟨x, w1, hC1, h1, o1, tx, f1⟩ := ix_common (w := w) (show r ≤ 4000 by omega) h
    obtain ⟨y, w2, hC2, h2, o2, ty, f2⟩ := im_common (w := w1) (show r + 1 ≤ 4000 by omega) h1
    exact ⟨x, w1, y, w2, hC1, hC2, h2, jTw_fl hT (by rw [o2, tx, ty, o1]; exact ht) f1 f2 (u2_q (u2_ok (y := 6) (by decide +kernel) hC1)) (u2_q (u2_ok (y := 98) (by decide +kernel) hC2))⟩
theorem il_table : jLn 43 144 1 := by
  intro r w as hr hk h
  obtain ⟨h, hT⟩ := h
  obtain ⟨ht, -⟩ := id hT
  match as, hk with
  | [a1], _ =>
    obtain ⟨x, w1, hC1, h1, o1, tx, f1⟩ := ix_table (w := w) (a1 := a1) (show r ≤ 4000 by omega) h
    obtain ⟨y, w2, hC2, h2, o2, ty, f2⟩ := im_table (w := w1) (a1 := a1) (show r + 1 ≤ 4000 by omega) h1
    exact ⟨x, w1, y, w2, hC1, hC2, h2, jTw_fl hT (by rw [o2, tx, ty, o1]; exact ht) f1 f2 (u2_q (u2_ok (y := 43) (by decide +kernel) hC1)) (u2_q (u2_ok (y := 144) (by decide +kernel) hC2))⟩
theorem il_plate : jLn 35 137 1 := by
  intro r w as hr hk h
  obtain ⟨h, hT⟩ := h
  obtain ⟨ht, -⟩ := id hT
  match as, hk with
  | [a1], _ =>
    obtain ⟨x, w1, hC1, h1, o1, tx, f1⟩ := ix_plate (w := w) (a1 := a1) (show r ≤ 4000 by omega) h
    obtain ⟨y, w2, hC2, h2, o2, ty, f2⟩ := im_plate (w := w1) (a1 := a1) (show r + 1 ≤ 4000 by omega) h1
    exact ⟨x, w1, y, w2, hC1, hC2, h2, jTw_fl hT (by rw [o2, tx, ty, o1]; exact ht) f1 f2 (u2_q (u2_ok (y := 35) (by decide +kernel) hC1)) (u2_q (u2_ok (y := 137) (by decide +kernel) hC2))⟩
theorem il_feast : jLn 12 104 0 := by
  intro r w as hr hk h
  obtain ⟨h, hT⟩ := h
  obtain ⟨ht, -⟩ := id hT
  match as, hk with
  | [], _ =>
    obtain ⟨x, w1, hC1, h1, o1, tx, f1⟩ := ix_feast (w := w) (show r ≤ 4000 by omega) h
    obtain ⟨y, w2, hC2, h2, o2, ty, f2⟩ := im_feast (w := w1) (show r + 1 ≤ 4000 by omega) h1
    exact ⟨x, w1, y, w2, hC1, hC2, h2, jTw_fl hT (by rw [o2, tx, ty, o1]; exact ht) f1 f2 (u2_q (u2_ok (y := 12) (by decide +kernel) hC1)) (u2_q (u2_ok (y := 104) (by decide +kernel) hC2))⟩
theorem il_ate : jLn 3 92 0 := by
  intro r w as hr hk h
  obtain ⟨h, hT⟩ := h
  obtain ⟨ht, -⟩ := id hT
  match as, hk with
  | [], _ =>
    obtain ⟨x, w1, hC1, h1, o1, tx, f1⟩ := ix_ate (w := w) (show r ≤ 4000 by omega) h
    obtain ⟨y, w2, hC2, h2, o2, ty, f2⟩ := im_ate (w := w1) (show r + 1 ≤ 4000 by omega) h1
    exact ⟨x, w1, y, w2, hC1, hC2, h2, jTw_fl hT (by rw [o2, tx, ty]) f1 f2 (u2_q (u2_ok (y := 3) (by decide +kernel) hC1)) (u2_q (u2_ok (y := 92) (by decide +kernel) hC2))⟩
theorem il_surely : jLn 42 143 0 := by
  intro r w as hr hk h
  obtain ⟨h, hT⟩ := h
  obtain ⟨ht, -⟩ := id hT
  match as, hk with
  | [], _ =>
    obtain ⟨x, w1, hC1, h1, o1, tx, f1⟩ := ix_surely (w := w) (show r ≤ 4000 by omega) h
    obtain ⟨y, w2, hC2, h2, o2, ty, f2⟩ := im_surely (w := w1) (show r + 1 ≤ 4000 by omega) h1
    exact ⟨x, w1, y, w2, hC1, hC2, h2, jTw_fl hT (by rw [o2, tx, ty, o1]; exact ht) f1 f2 (u2_q (u2_ok (y := 42) (by decide +kernel) hC1)) (u2_q (u2_ok (y := 143) (by decide +kernel) hC2))⟩
theorem il_ask : jLn 2 91 0 := by
  intro r w as hr hk h
  obtain ⟨h, hT⟩ := h
  obtain ⟨ht, -⟩ := id hT
  match as, hk with
  | [], _ =>
    obtain ⟨x, w1, hC1, h1, o1, tx, f1⟩ := ix_ask (w := w) (show r ≤ 4000 by omega) h
    obtain ⟨y, w2, hC2, h2, o2, ty, f2⟩ := im_ask (w := w1) (show r + 1 ≤ 4000 by omega) h1
    exact ⟨x, w1, y, w2, hC1, hC2, h2, jTw_fl hT (by rw [o2, tx, ty, o1]; exact ht) f1 f2 (u2_q (u2_ok (y := 2) (by decide +kernel) hC1)) (u2_q (u2_ok (y := 91) (by decide +kernel) hC2))⟩
theorem il_twins : jLn 45 148 2 := by
  intro r w as hr hk h
  obtain ⟨h, hT⟩ := h
  obtain ⟨ht, -⟩ := id hT
  match as, hk with
  | [a1, a2], _ =>
    obtain ⟨x, w1, hC1, h1, o1, tx, f1⟩ := ix_twins (w := w) (a1 := a1) (a2 := a2) (show r ≤ 4000 by omega) h
    obtain ⟨y, w2, hC2, h2, o2, ty, f2⟩ := im_twins (w := w1) (a1 := a1) (a2 := a2) (show r + 1 ≤ 4000 by omega) h1
    exact ⟨x, w1, y, w2, hC1, hC2, h2, jTw_fl hT (by rw [o2, tx, ty, o1]; exact ht) f1 f2 (u2_q (u2_ok (y := 45) (by decide +kernel) hC1)) (u2_q (u2_ok (y := 148) (by decide +kernel) hC2))⟩
theorem il_late : jLn 25 123 1 := by
  intro r w as hr hk h
  obtain ⟨h, hT⟩ := h
  obtain ⟨ht, -⟩ := id hT
  match as, hk with
  | [a1], _ =>
    obtain ⟨x, w1, hC1, h1, o1, tx, f1⟩ := ix_late (w := w) (a1 := a1) (show r ≤ 4000 by omega) h
    obtain ⟨y, w2, hC2, h2, o2, ty, f2⟩ := im_late (w := w1) (a1 := a1) (show r + 1 ≤ 4000 by omega) h1
    exact ⟨x, w1, y, w2, hC1, hC2, h2, jTw_fl hT (by rw [o2, tx, ty, o1]; exact ht) f1 f2 (u2_q (u2_ok (y := 25) (by decide +kernel) hC1)) (u2_q (u2_ok (y := 123) (by decide +kernel) hC2))⟩
theorem il_share : jLn 40 141 2 := by
  intro r w as hr hk h
  obtain ⟨h, hT⟩ := h
  obtain ⟨ht, -⟩ := id hT
  match as, hk with
  | [a1, a2], _ =>
    obtain ⟨x, w1, hC1, h1, o1, tx, f1⟩ := ix_share (w := w) (a1 := a1) (a2 := a2) (show r ≤ 4000 by omega) h
    obtain ⟨y, w2, hC2, h2, o2, ty, f2⟩ := im_share (w := w1) (a1 := a1) (a2 := a2) (show r + 1 ≤ 4000 by omega) h1
    exact ⟨x, w1, y, w2, hC1, hC2, h2, jTw_fl hT (by rw [o2, tx, ty, o1]; exact ht) f1 f2 (u2_q (u2_ok (y := 40) (by decide +kernel) hC1)) (u2_q (u2_ok (y := 141) (by decide +kernel) hC2))⟩
theorem il_clash : jLn 5 97 1 := by
  intro r w as hr hk h
  obtain ⟨h, hT⟩ := h
  obtain ⟨ht, -⟩ := id hT
  match as, hk with
  | [a1], _ =>
    obtain ⟨x, w1, hC1, h1, o1, tx, f1⟩ := ix_clash (w := w) (a1 := a1) (show r ≤ 4000 by omega) h
    obtain ⟨y, w2, hC2, h2, o2, ty, f2⟩ := im_clash (w := w1) (a1 := a1) (show r + 1 ≤ 4000 by omega) h1
    exact ⟨x, w1, y, w2, hC1, hC2, h2, jTw_fl hT (by rw [o2, tx, ty, o1]; exact ht) f1 f2 (u2_q (u2_ok (y := 5) (by decide +kernel) hC1)) (u2_q (u2_ok (y := 97) (by decide +kernel) hC2))⟩
theorem il_keeps : jLn 24 122 1 := by
  intro r w as hr hk h
  obtain ⟨h, hT⟩ := h
  obtain ⟨ht, -⟩ := id hT
  match as, hk with
  | [a1], _ =>
    obtain ⟨x, w1, hC1, h1, o1, tx, f1⟩ := ix_keeps (w := w) (a1 := a1) (show r ≤ 4000 by omega) h
    obtain ⟨y, w2, hC2, h2, o2, ty, f2⟩ := im_keeps (w := w1) (a1 := a1) (show r + 1 ≤ 4000 by omega) h1
    exact ⟨x, w1, y, w2, hC1, hC2, h2, jTw_fl hT (by rw [o2, tx, ty, o1]; exact ht) f1 f2 (u2_q (u2_ok (y := 24) (by decide +kernel) hC1)) (u2_q (u2_ok (y := 122) (by decide +kernel) hC2))⟩
theorem il_later : jLn 26 124 2 := by
  intro r w as hr hk h
  obtain ⟨h, hT⟩ := h
  obtain ⟨ht, -⟩ := id hT
  match as, hk with
  | [a1, a2], _ =>
    obtain ⟨x, w1, hC1, h1, o1, tx, f1⟩ := ix_later (w := w) (a1 := a1) (a2 := a2) (show r ≤ 4000 by omega) h
    obtain ⟨y, w2, hC2, h2, o2, ty, f2⟩ := im_later (w := w1) (a1 := a1) (a2 := a2) (show r + 1 ≤ 4000 by omega) h1
    exact ⟨x, w1, y, w2, hC1, hC2, h2, jTw_fl hT (by rw [o2, tx, ty, o1]; exact ht) f1 f2 (u2_q (u2_ok (y := 26) (by decide +kernel) hC1)) (u2_q (u2_ok (y := 124) (by decide +kernel) hC2))⟩
theorem il_paid : jLn 34 135 1 := by
  intro r w as hr hk h
  obtain ⟨h, hT⟩ := h
  obtain ⟨ht, -⟩ := id hT
  match as, hk with
  | [a1], _ =>
    obtain ⟨x, w1, hC1, h1, o1, tx, f1⟩ := ix_paid (w := w) (a1 := a1) (show r ≤ 4000 by omega) h
    obtain ⟨y, w2, hC2, h2, o2, ty, f2⟩ := im_paid (w := w1) (a1 := a1) (show r + 1 ≤ 4000 by omega) h1
    exact ⟨x, w1, y, w2, hC1, hC2, h2, jTw_fl hT (by rw [o2, tx, ty, o1]; exact ht) f1 f2 (u2_q (u2_ok (y := 34) (by decide +kernel) hC1)) (u2_q (u2_ok (y := 135) (by decide +kernel) hC2))⟩
theorem il_drawn : jLn 8 100 2 := by
  intro r w as hr hk h
  obtain ⟨h, hT⟩ := h
  obtain ⟨ht, -⟩ := id hT
  match as, hk with
  | [a1, a2], _ =>
    obtain ⟨x, w1, hC1, h1, o1, tx, f1⟩ := ix_drawn (w := w) (a1 := a1) (a2 := a2) (show r ≤ 4000 by omega) h
    obtain ⟨y, w2, hC2, h2, o2, ty, f2⟩ := im_drawn (w := w1) (a1 := a1) (a2 := a2) (show r + 1 ≤ 4000 by omega) h1
    exact ⟨x, w1, y, w2, hC1, hC2, h2, jTw_fl hT (by rw [o2, tx, ty, o1]; exact ht) f1 f2 (u2_q (u2_ok (y := 8) (by decide +kernel) hC1)) (u2_q (u2_ok (y := 100) (by decide +kernel) hC2))⟩
theorem il_odds : jLn 31 131 3 := by
  intro r w as hr hk h
  obtain ⟨h, hT⟩ := h
  obtain ⟨ht, -⟩ := id hT
  match as, hk with
  | [a1, a2, a3], _ =>
    obtain ⟨x, w1, hC1, h1, o1, tx, f1⟩ := ix_odds (w := w) (a1 := a1) (a2 := a2) (a3 := a3) (show r ≤ 4000 by omega) h
    obtain ⟨y, w2, hC2, h2, o2, ty, f2⟩ := im_odds (w := w1) (a1 := a1) (a2 := a2) (a3 := a3) (show r + 1 ≤ 4000 by omega) h1
    exact ⟨x, w1, y, w2, hC1, hC2, h2, jTw_fl hT (by rw [o2, tx, ty, o1]; exact ht) f1 f2 (u2_q (u2_ok (y := 31) (by decide +kernel) hC1)) (u2_q (u2_ok (y := 131) (by decide +kernel) hC2))⟩
theorem il_book : jLn 4 96 1 := by
  intro r w as hr hk h
  obtain ⟨h, hT⟩ := h
  obtain ⟨ht, -⟩ := id hT
  match as, hk with
  | [a1], _ =>
    obtain ⟨x, w1, hC1, h1, o1, tx, f1⟩ := ix_book (w := w) (a1 := a1) (show r ≤ 4000 by omega) h
    obtain ⟨y, w2, hC2, h2, o2, ty, f2⟩ := im_book (w := w1) (a1 := a1) (show r + 1 ≤ 4000 by omega) h1
    exact ⟨x, w1, y, w2, hC1, hC2, h2, jTw_fl hT (by
      rcases tx with ⟨c1, tx⟩ | ⟨c1, tx⟩
      · rcases ty with ⟨c2, ty⟩ | ⟨c2, ty⟩
        · rw [o2, tx, ty]
        · exact absurd c1 c2
      · rcases ty with ⟨c2, ty⟩ | ⟨c2, ty⟩
        · exact absurd c2 c1
        · rw [o2, tx, ty, o1]
          exact ht) f1 f2 (u2_q (u2_ok (y := 4) (by decide +kernel) hC1)) (u2_q (u2_ok (y := 96) (by decide +kernel) hC2))⟩
theorem il_told : jLn 44 146 1 := by
  intro r w as hr hk h
  obtain ⟨h, hT⟩ := h
  obtain ⟨ht, -⟩ := id hT
  match as, hk with
  | [a1], _ =>
    obtain ⟨x, w1, hC1, h1, o1, tx, f1⟩ := ix_told (w := w) (a1 := a1) (show r ≤ 4000 by omega) h
    obtain ⟨y, w2, hC2, h2, o2, ty, f2⟩ := im_told (w := w1) (a1 := a1) (show r + 1 ≤ 4000 by omega) h1
    exact ⟨x, w1, y, w2, hC1, hC2, h2, jTw_fl hT (by rw [o2, tx, ty, o1]; exact ht) f1 f2 (u2_q (u2_ok (y := 44) (by decide +kernel) hC1)) (u2_q (u2_ok (y := 146) (by decide +kernel) hC2))⟩
theorem il_sentence : jLn 39 140 0 := by
  intro r w as hr hk h
  obtain ⟨h, hT⟩ := h
  obtain ⟨ht, -⟩ := id hT
  match as, hk with
  | [], _ =>
    obtain ⟨x, w1, hC1, h1, o1, tx, f1⟩ := ix_sentence (w := w) (show r ≤ 4000 by omega) h
    obtain ⟨y, w2, hC2, h2, o2, ty, f2⟩ := im_sentence (w := w1) (show r + 1 ≤ 4000 by omega) h1
    exact ⟨x, w1, y, w2, hC1, hC2, h2, jTw_fl hT (by rw [o2, tx, ty]) f1 f2 (u2_q (u2_ok (y := 39) (by decide +kernel) hC1)) (u2_q (u2_ok (y := 140) (by decide +kernel) hC2))⟩
theorem il_said : jLn 38 139 1 := by
  intro r w as hr hk h
  obtain ⟨h, hT⟩ := h
  obtain ⟨ht, -⟩ := id hT
  match as, hk with
  | [a1], _ =>
    obtain ⟨x, w1, hC1, h1, o1, tx, f1⟩ := ix_said (w := w) (a1 := a1) (show r ≤ 4000 by omega) h
    obtain ⟨y, w2, hC2, h2, o2, ty, f2⟩ := im_said (w := w1) (a1 := a1) (show r + 1 ≤ 4000 by omega) h1
    exact ⟨x, w1, y, w2, hC1, hC2, h2, jTw_fl hT (by rw [o2, tx, ty, o1]; exact ht) f1 f2 (u2_q (u2_ok (y := 38) (by decide +kernel) hC1)) (u2_q (u2_ok (y := 139) (by decide +kernel) hC2))⟩
theorem jTw_T {w : cm_W} (h : jRl w) : ∃ T : Nat → Int, (∀ j, j < 940 → (w.1 1 j).toInt = T j) ∧ (∀ j, j < 940 → (w.1 185 j &&& ((Int16.ofInt 255).toInt32)).toInt = T j) ∧ (∀ j, 0 ≤ T j ∧ T j ≤ 255) := by
  refine ⟨fun j => if j < 940 then (w.1 1 j).toInt else 0, fun j hj => (if_pos hj).symm, fun j hj => ((h.1 j hj).1).trans (if_pos hj).symm, fun j => ?_⟩
  by_cases hj : j < 940
  · show 0 ≤ (if j < 940 then (w.1 1 j).toInt else 0) ∧ (if j < 940 then (w.1 1 j).toInt else 0) ≤ 255
    rw [if_pos hj]
    exact (h.1 j hj).2
  · show 0 ≤ (if j < 940 then (w.1 1 j).toInt else 0) ∧ (if j < 940 then (w.1 1 j).toInt else 0) ≤ 255
    rw [if_neg hj]
    omega
theorem ie_valley : jLe 47 150 0 := by
  intro r w as hr hk h
  obtain ⟨h, hT⟩ := h
  obtain ⟨ht, hfl, hRl⟩ := id hT
  match as, hk with
  | [], _ =>
    obtain ⟨x, w1, hC1, h1, o1, tx, f1⟩ := ix_valley (w := w) (show r ≤ 4000 by omega) h
    obtain ⟨T, t1, t2, t3⟩ := jTw_T hRl
    have g0 := hb_in (x := w.1 0 1) (lo := 2147483648) (hi := 2147484588) (by have g := h.1 0 1; rw [hs_g1.2.1] at g; exact g)
    obtain ⟨n, hn⟩ : ∃ n : Nat, (w.1 0 1).toInt = (n : Int) := ⟨(w.1 0 1).toInt.toNat, by omega⟩
    obtain ⟨b1, b2, b3, ⟨hh, nm, b4, b5⟩, b6, b7⟩ := id hRl
    obtain ⟨x', w1', hC1', p1⟩ := vy_ok (w := w) (T := T) (n := n) t1 b2 hn (by omega) h.1
    obtain ⟨e1, rfl⟩ := Prod.mk.inj (cm_det hC1 hC1')
    cases e1
    have hF : vy_W w w1 := by
      rcases p1 with ⟨_, _, _, _, _, g⟩ | ⟨_, _, _, _, _, _, _, _, g⟩
      · exact fun k i q1 q2 q3 q4 => g k i q1 (by omega) (by omega)
      · exact g
    obtain ⟨y, w2, hC2, h2, o2, ty, f2⟩ := im_valley (w := w1) (show r + 1 ≤ 4000 by omega) h1
    obtain ⟨y', w2', hC2', p2⟩ := mv_ok (w := w1) (T := T) (n := n) (fun j hj => by rw [(hF 185 j (by omega) (by omega) (by omega) (by omega)).1]; exact t2 j hj) t3 (by rw [o1, ← ht]; exact hn) (by omega) (fun k hk => by rw [(hF 190 k (by omega) (by omega) (by omega) (by omega)).2]; exact b3 k hk)
    obtain ⟨e2, rfl⟩ := Prod.mk.inj (cm_det hC2 hC2')
    cases e2
    have hM : ∀ k i, ¬ (k = 184 ∧ (i = 0 ∨ (2 ≤ i ∧ i ≤ 5) ∨ (11 ≤ i ∧ i ≤ 20) ∨ i = 23)) → k ≠ 187 → k ≠ 186 → k ≠ 189 → w2.1 k i = w1.1 k i ∧ w2.2 k i = w1.2 k i := by
      rcases p2 with ⟨_, _, _, _, _, g⟩ | ⟨_, _, _, _, _, _, _, _, g⟩
      · exact fun k i q1 q2 q3 q4 => g k i q1 q2 (by omega)
      · exact g
    have hfl2 : (w2.1 130 0).toInt = (w2.1 203 0).toInt ∧ (w2.1 157 0).toInt = (w2.1 203 1).toInt := by
      obtain ⟨c1, c2, c3, c4⟩ := f1
      obtain ⟨d1, d2, d3, d4⟩ := f2
      rw [d1, d2, d3, d4, c1, c2, c3, c4]
      exact hfl
    have hv : x = y ∧ ∃ h nm, vl_R w2 4 h nm ∧ mv_R w2 h nm := by
      rcases p1 with ⟨k, q, A, ex, _, g⟩ | ⟨l, h9, n9, A, ex, _, _, g1, g2⟩
      · rcases p2 with ⟨k2, q2, A2, ey, _, g'⟩ | ⟨l2, h2', n2', A2, _⟩
        · rw [A] at A2
          cases A2
          refine ⟨ex.trans ey.symm, hh, nm, vl_R_f2 (w := w) (fun k i p q => ((hM k i (by omega) (by omega) (by omega) (by omega)).1).trans (g k i (by omega) (by omega) (by omega)).1) (fun k i p q => ((hM k i (by omega) (by omega) (by omega) (by omega)).2).trans (g k i (by omega) (by omega) (by omega)).2) b4, mv_R_f2 (w := w) (fun i hi => ((g' 186 i (by omega) (by omega) (by omega)).1).trans (g 186 i (by omega) (by omega) (by omega)).1) (fun i hi => ((g' 189 i (by omega) (by omega) (by omega)).2).trans (g 189 i (by omega) (by omega) (by omega)).2) b5⟩
        · rw [A] at A2
          cases A2
      · rcases p2 with ⟨k2, q2, A2, _⟩ | ⟨l2, h2', n2', A2, ey, _, _, g3, _⟩
        · rw [A] at A2
          cases A2
        · rw [A] at A2
          cases A2
          exact ⟨Int32.toInt_inj.mp (ex.trans ey.symm), h9, n9, vl_R_f2 (w := w1) (fun k i p q => (hM k i (by omega) (by omega) (by omega) (by omega)).1) (fun k i p q => (hM k i (by omega) (by omega) (by omega) (by omega)).2) g1, g3⟩
    have cc : ∀ k i, ¬ (k = 0 ∧ (i = 1 ∨ i = 3)) → ¬ (2 ≤ k ∧ k ≤ 39 ∧ k ≠ 3) → k ≠ 47 → k ≠ 106 → k ≠ 184 → k ≠ 186 → k ≠ 187 → k ≠ 189 → w2.1 k i = w.1 k i ∧ w2.2 k i = w.2 k i := fun k i q1 q2 q3 q4 q5 q6 q7 q8 => ⟨((hM k i (by omega) q7 q6 q8).1).trans (hF k i q1 q2 q3 q4).1, ((hM k i (by omega) q7 q6 q8).2).trans (hF k i q1 q2 q3 q4).2⟩
    have cd : ∀ k i, k = 1 ∨ k = 3 ∨ (130 ≤ k ∧ k ≤ 171) ∨ k = 185 ∨ k = 190 ∨ k = 201 ∨ k = 202 → w2.1 k i = w.1 k i ∧ w2.2 k i = w.2 k i := fun k i q => cc k i (by omega) (by omega) (by omega) (by omega) (by omega) (by omega) (by omega) (by omega)
    refine ⟨x, w1, y, w2, hC1, hC2, ⟨h2, by rw [o2, tx, ty], hfl2, fun j hj => by rw [(cd 185 j (by omega)).1, (cd 1 j (by omega)).1]; exact b1 j hj, fun k hk => by rw [(cd 3 k (by omega)).2]; exact b2 k hk, fun k hk => by rw [(cd 190 k (by omega)).2]; exact b3 k hk, hv.2, fun z => ?_, fun z => ?_⟩, hv.1⟩
    · rw [(cd 130 0 (by omega)).1] at z
      obtain ⟨h9, n9, c1, c2⟩ := b6 z
      exact ⟨h9, n9, vl_R_f2 (fun k i p q => (cd k i (by omega)).1) (fun k i p q => (cd k i (by omega)).2) c1, mk_R_f2 (fun i hi => (cd 201 _ (by omega)).1) (fun i hi => (cd 202 _ (by omega)).2) c2⟩
    · rw [(cd 157 0 (by omega)).1] at z
      obtain ⟨h9, n9, c1, c2⟩ := b7 z
      exact ⟨h9, n9, vl_R_f2 (fun k i p q => (cd k i (by omega)).1) (fun k i p q => (cd k i (by omega)).2) c1, mk_R_f2 (fun i hi => (cd 201 _ (by omega)).1) (fun i hi => (cd 202 _ (by omega)).2) c2⟩
theorem il_valley : jLn 47 150 0 := jLn_of ie_valley
