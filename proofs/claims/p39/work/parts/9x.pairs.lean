/-! ## a line of the law: the class's call, then the reference's (wip/p2/gen9x.py) -/
/-- what is so between two rounds: and both tapes are of one size -/
def jTw (w : cm_W) : Prop := (w.1 0 1).toInt = (w.1 184 2).toInt ∧ (w.1 130 0).toInt = (w.1 203 0).toInt ∧ (w.1 157 0).toInt = (w.1 203 1).toInt
def jIv (r : Nat) (w : cm_W) : Prop := jIw r w ∧ jTw w
theorem jTw_fl {w w1 w2 : cm_W} (h : jTw w) (ht : (w2.1 0 1).toInt = (w2.1 184 2).toInt) (h1 : jFl w w1) (h2 : jFl w1 w2) : jTw w2 := by
  obtain ⟨a1, a2, a3, a4⟩ := h1
  obtain ⟨b1, b2, b3, b4⟩ := h2
  exact ⟨ht, by rw [b1, b3, a1, a3]; exact h.2.1, by rw [b2, b4, a2, a4]; exact h.2.2⟩
/-- both calls end, from every such state -/
def jLn (yx ym k : Nat) : Prop := ∀ (r : Nat) (w : cm_W) (as : List Int32), r ≤ 3000 → as.length = k → jIv r w → ∃ x w1 y w2, cm_C 24 yx (.inr (.inr (some 0)) :: as.map .inl) w (some (.inl x), w1) ∧ cm_C 24 ym (.inr (.inr (some 184)) :: as.map .inl) w1 (some (.inl y), w2) ∧ jIv (r + 2) w2
/-- and they answer alike -/
def jLe (yx ym k : Nat) : Prop := ∀ (r : Nat) (w : cm_W) (as : List Int32), r ≤ 3000 → as.length = k → jIv r w → ∃ x w1 y w2, cm_C 24 yx (.inr (.inr (some 0)) :: as.map .inl) w (some (.inl x), w1) ∧ cm_C 24 ym (.inr (.inr (some 184)) :: as.map .inl) w1 (some (.inl y), w2) ∧ jIv (r + 2) w2 ∧ x = y
theorem jLn_of {yx ym k : Nat} (h : jLe yx ym k) : jLn yx ym k := fun r w as h1 h2 h3 => by
  obtain ⟨x, w1, y, w2, a, b, c, -⟩ := h r w as h1 h2 h3
  exact ⟨x, w1, y, w2, a, b, c⟩
theorem ie_end : jLe 10 102 1 := by
  intro r w as hr hk h
  obtain ⟨h, hT⟩ := h
  obtain ⟨ht, -⟩ := id hT
  match as, hk with
  | [a1], _ =>
    obtain ⟨x, w1, hC1, h1, o1, tx, f1⟩ := ix_end (w := w) (a1 := a1) (show r ≤ 4000 by omega) h
    obtain ⟨y, w2, hC2, h2, o2, ty, f2⟩ := im_end (w := w1) (a1 := a1) (show r + 1 ≤ 4000 by omega) h1
    rw [o1] at ty
    rcases tx with ⟨c1, c2, tx, ex⟩ | ⟨c1, tx, ex⟩
    · rcases ty with ⟨c3, c4, ty, ey⟩ | ⟨c3, ty, ey⟩
      · exact ⟨x, w1, y, w2, hC1, hC2, ⟨h2, jTw_fl hT (by rw [o2, tx, ty]) f1 f2⟩, by rw [ex, ey]⟩
      · exact absurd ⟨c1, by omega⟩ c3
    · rcases ty with ⟨c3, c4, ty, ey⟩ | ⟨c3, ty, ey⟩
      · exact absurd ⟨c3, by omega⟩ c1
      · exact ⟨x, w1, y, w2, hC1, hC2, ⟨h2, jTw_fl hT (by rw [o2, tx, ty]; exact ht) f1 f2⟩, by rw [ex, ey]⟩
theorem il_end : jLn 10 102 1 := jLn_of ie_end
theorem il_valley : jLn 47 150 0 := by
  intro r w as hr hk h
  obtain ⟨h, hT⟩ := h
  obtain ⟨ht, -⟩ := id hT
  match as, hk with
  | [], _ =>
    obtain ⟨x, w1, hC1, h1, o1, tx, f1⟩ := ix_valley (w := w) (show r ≤ 4000 by omega) h
    obtain ⟨y, w2, hC2, h2, o2, ty, f2⟩ := im_valley (w := w1) (show r + 1 ≤ 4000 by omega) h1
    exact ⟨x, w1, y, w2, hC1, hC2, h2, jTw_fl hT (by rw [o2, tx, ty]) f1 f2⟩
theorem il_fault : jLn 11 103 0 := by
  intro r w as hr hk h
  obtain ⟨h, hT⟩ := h
  obtain ⟨ht, -⟩ := id hT
  match as, hk with
  | [], _ =>
    obtain ⟨x, w1, hC1, h1, o1, tx, f1⟩ := ix_fault (w := w) (show r ≤ 4000 by omega) h
    obtain ⟨y, w2, hC2, h2, o2, ty, f2⟩ := im_fault (w := w1) (show r + 1 ≤ 4000 by omega) h1
    exact ⟨x, w1, y, w2, hC1, hC2, h2, jTw_fl hT (by rw [o2, tx, ty, o1]; exact ht) f1 f2⟩
theorem il_food : jLn 14 106 2 := by
  intro r w as hr hk h
  obtain ⟨h, hT⟩ := h
  obtain ⟨ht, -⟩ := id hT
  match as, hk with
  | [a1, a2], _ =>
    obtain ⟨x, w1, hC1, h1, o1, tx, f1⟩ := ix_food (w := w) (a1 := a1) (a2 := a2) (show r ≤ 4000 by omega) h
    obtain ⟨y, w2, hC2, h2, o2, ty, f2⟩ := im_food (w := w1) (a1 := a1) (a2 := a2) (show r + 1 ≤ 4000 by omega) h1
    exact ⟨x, w1, y, w2, hC1, hC2, h2, jTw_fl hT (by rw [o2, tx, ty, o1]; exact ht) f1 f2⟩
theorem il_meeting : jLn 28 127 2 := by
  intro r w as hr hk h
  obtain ⟨h, hT⟩ := h
  obtain ⟨ht, -⟩ := id hT
  match as, hk with
  | [a1, a2], _ =>
    obtain ⟨x, w1, hC1, h1, o1, tx, f1⟩ := ix_meeting (w := w) (a1 := a1) (a2 := a2) (show r ≤ 4000 by omega) h
    obtain ⟨y, w2, hC2, h2, o2, ty, f2⟩ := im_meeting (w := w1) (a1 := a1) (a2 := a2) (show r + 1 ≤ 4000 by omega) h1
    exact ⟨x, w1, y, w2, hC1, hC2, h2, jTw_fl hT (by rw [o2, tx, ty, o1]; exact ht) f1 f2⟩
theorem il_now : jLn 30 130 1 := by
  intro r w as hr hk h
  obtain ⟨h, hT⟩ := h
  obtain ⟨ht, -⟩ := id hT
  match as, hk with
  | [a1], _ =>
    obtain ⟨x, w1, hC1, h1, o1, tx, f1⟩ := ix_now (w := w) (a1 := a1) (show r ≤ 4000 by omega) h
    obtain ⟨y, w2, hC2, h2, o2, ty, f2⟩ := im_now (w := w1) (a1 := a1) (show r + 1 ≤ 4000 by omega) h1
    exact ⟨x, w1, y, w2, hC1, hC2, h2, jTw_fl hT (by rw [o2, tx, ty, o1]; exact ht) f1 f2⟩
theorem il_eat : jLn 9 101 2 := by
  intro r w as hr hk h
  obtain ⟨h, hT⟩ := h
  obtain ⟨ht, -⟩ := id hT
  match as, hk with
  | [a1, a2], _ =>
    obtain ⟨x, w1, hC1, h1, o1, tx, f1⟩ := ix_eat (w := w) (a1 := a1) (a2 := a2) (show r ≤ 4000 by omega) h
    obtain ⟨y, w2, hC2, h2, o2, ty, f2⟩ := im_eat (w := w1) (a1 := a1) (a2 := a2) (show r + 1 ≤ 4000 by omega) h1
    exact ⟨x, w1, y, w2, hC1, hC2, h2, jTw_fl hT (by rw [o2, tx, ty, o1]; exact ht) f1 f2⟩
theorem il_ail : jLn 1 90 1 := by
  intro r w as hr hk h
  obtain ⟨h, hT⟩ := h
  obtain ⟨ht, -⟩ := id hT
  match as, hk with
  | [a1], _ =>
    obtain ⟨x, w1, hC1, h1, o1, tx, f1⟩ := ix_ail (w := w) (a1 := a1) (show r ≤ 4000 by omega) h
    obtain ⟨y, w2, hC2, h2, o2, ty, f2⟩ := im_ail (w := w1) (a1 := a1) (show r + 1 ≤ 4000 by omega) h1
    exact ⟨x, w1, y, w2, hC1, hC2, h2, jTw_fl hT (by rw [o2, tx, ty, o1]; exact ht) f1 f2⟩
theorem il_mend : jLn 29 128 1 := by
  intro r w as hr hk h
  obtain ⟨h, hT⟩ := h
  obtain ⟨ht, -⟩ := id hT
  match as, hk with
  | [a1], _ =>
    obtain ⟨x, w1, hC1, h1, o1, tx, f1⟩ := ix_mend (w := w) (a1 := a1) (show r ≤ 4000 by omega) h
    obtain ⟨y, w2, hC2, h2, o2, ty, f2⟩ := im_mend (w := w1) (a1 := a1) (show r + 1 ≤ 4000 by omega) h1
    exact ⟨x, w1, y, w2, hC1, hC2, h2, jTw_fl hT (by rw [o2, tx, ty, o1]; exact ht) f1 f2⟩
theorem il_meet : jLn 27 126 1 := by
  intro r w as hr hk h
  obtain ⟨h, hT⟩ := h
  obtain ⟨ht, -⟩ := id hT
  match as, hk with
  | [a1], _ =>
    obtain ⟨x, w1, hC1, h1, o1, tx, f1⟩ := ix_meet (w := w) (a1 := a1) (show r ≤ 4000 by omega) h
    obtain ⟨y, w2, hC2, h2, o2, ty, f2⟩ := im_meet (w := w1) (a1 := a1) (show r + 1 ≤ 4000 by omega) h1
    exact ⟨x, w1, y, w2, hC1, hC2, h2, jTw_fl hT (by rw [o2, tx, ty, o1]; exact ht) f1 f2⟩
theorem il_hours : jLn 15 111 1 := by
  intro r w as hr hk h
  obtain ⟨h, hT⟩ := h
  obtain ⟨ht, -⟩ := id hT
  match as, hk with
  | [a1], _ =>
    obtain ⟨x, w1, hC1, h1, o1, tx, f1⟩ := ix_hours (w := w) (a1 := a1) (show r ≤ 4000 by omega) h
    obtain ⟨y, w2, hC2, h2, o2, ty, f2⟩ := im_hours (w := w1) (a1 := a1) (show r + 1 ≤ 4000 by omega) h1
    exact ⟨x, w1, y, w2, hC1, hC2, h2, jTw_fl hT (by rw [o2, tx, ty, o1]; exact ht) f1 f2⟩
theorem il_undo : jLn 46 149 0 := by
  intro r w as hr hk h
  obtain ⟨h, hT⟩ := h
  obtain ⟨ht, -⟩ := id hT
  match as, hk with
  | [], _ =>
    obtain ⟨x, w1, hC1, h1, o1, tx, f1⟩ := ix_undo (w := w) (show r ≤ 4000 by omega) h
    obtain ⟨y, w2, hC2, h2, o2, ty, f2⟩ := im_undo (w := w1) (show r + 1 ≤ 4000 by omega) h1
    exact ⟨x, w1, y, w2, hC1, hC2, h2, jTw_fl hT (by rw [o2, tx, ty, o1]; exact ht) f1 f2⟩
theorem il_on : jLn 32 132 1 := by
  intro r w as hr hk h
  obtain ⟨h, hT⟩ := h
  obtain ⟨ht, -⟩ := id hT
  match as, hk with
  | [a1], _ =>
    obtain ⟨x, w1, hC1, h1, o1, tx, f1⟩ := ix_on (w := w) (a1 := a1) (show r ≤ 4000 by omega) h
    obtain ⟨y, w2, hC2, h2, o2, ty, f2⟩ := im_on (w := w1) (a1 := a1) (show r + 1 ≤ 4000 by omega) h1
    exact ⟨x, w1, y, w2, hC1, hC2, h2, jTw_fl hT (by rw [o2, tx, ty, o1]; exact ht) f1 f2⟩
theorem il_common : jLn 6 98 0 := by
  intro r w as hr hk h
  obtain ⟨h, hT⟩ := h
  obtain ⟨ht, -⟩ := id hT
  match as, hk with
  | [], _ =>
    obtain ⟨x, w1, hC1, h1, o1, tx, f1⟩ := ix_common (w := w) (show r ≤ 4000 by omega) h
    obtain ⟨y, w2, hC2, h2, o2, ty, f2⟩ := im_common (w := w1) (show r + 1 ≤ 4000 by omega) h1
    exact ⟨x, w1, y, w2, hC1, hC2, h2, jTw_fl hT (by rw [o2, tx, ty, o1]; exact ht) f1 f2⟩
theorem il_table : jLn 43 144 1 := by
  intro r w as hr hk h
  obtain ⟨h, hT⟩ := h
  obtain ⟨ht, -⟩ := id hT
  match as, hk with
  | [a1], _ =>
    obtain ⟨x, w1, hC1, h1, o1, tx, f1⟩ := ix_table (w := w) (a1 := a1) (show r ≤ 4000 by omega) h
    obtain ⟨y, w2, hC2, h2, o2, ty, f2⟩ := im_table (w := w1) (a1 := a1) (show r + 1 ≤ 4000 by omega) h1
    exact ⟨x, w1, y, w2, hC1, hC2, h2, jTw_fl hT (by rw [o2, tx, ty, o1]; exact ht) f1 f2⟩
theorem il_plate : jLn 35 137 1 := by
  intro r w as hr hk h
  obtain ⟨h, hT⟩ := h
  obtain ⟨ht, -⟩ := id hT
  match as, hk with
  | [a1], _ =>
    obtain ⟨x, w1, hC1, h1, o1, tx, f1⟩ := ix_plate (w := w) (a1 := a1) (show r ≤ 4000 by omega) h
    obtain ⟨y, w2, hC2, h2, o2, ty, f2⟩ := im_plate (w := w1) (a1 := a1) (show r + 1 ≤ 4000 by omega) h1
    exact ⟨x, w1, y, w2, hC1, hC2, h2, jTw_fl hT (by rw [o2, tx, ty, o1]; exact ht) f1 f2⟩
theorem il_feast : jLn 12 104 0 := by
  intro r w as hr hk h
  obtain ⟨h, hT⟩ := h
  obtain ⟨ht, -⟩ := id hT
  match as, hk with
  | [], _ =>
    obtain ⟨x, w1, hC1, h1, o1, tx, f1⟩ := ix_feast (w := w) (show r ≤ 4000 by omega) h
    obtain ⟨y, w2, hC2, h2, o2, ty, f2⟩ := im_feast (w := w1) (show r + 1 ≤ 4000 by omega) h1
    exact ⟨x, w1, y, w2, hC1, hC2, h2, jTw_fl hT (by rw [o2, tx, ty, o1]; exact ht) f1 f2⟩
theorem il_ate : jLn 3 92 0 := by
  intro r w as hr hk h
  obtain ⟨h, hT⟩ := h
  obtain ⟨ht, -⟩ := id hT
  match as, hk with
  | [], _ =>
    obtain ⟨x, w1, hC1, h1, o1, tx, f1⟩ := ix_ate (w := w) (show r ≤ 4000 by omega) h
    obtain ⟨y, w2, hC2, h2, o2, ty, f2⟩ := im_ate (w := w1) (show r + 1 ≤ 4000 by omega) h1
    exact ⟨x, w1, y, w2, hC1, hC2, h2, jTw_fl hT (by rw [o2, tx, ty]) f1 f2⟩
theorem il_surely : jLn 42 143 0 := by
  intro r w as hr hk h
  obtain ⟨h, hT⟩ := h
  obtain ⟨ht, -⟩ := id hT
  match as, hk with
  | [], _ =>
    obtain ⟨x, w1, hC1, h1, o1, tx, f1⟩ := ix_surely (w := w) (show r ≤ 4000 by omega) h
    obtain ⟨y, w2, hC2, h2, o2, ty, f2⟩ := im_surely (w := w1) (show r + 1 ≤ 4000 by omega) h1
    exact ⟨x, w1, y, w2, hC1, hC2, h2, jTw_fl hT (by rw [o2, tx, ty, o1]; exact ht) f1 f2⟩
theorem il_ask : jLn 2 91 0 := by
  intro r w as hr hk h
  obtain ⟨h, hT⟩ := h
  obtain ⟨ht, -⟩ := id hT
  match as, hk with
  | [], _ =>
    obtain ⟨x, w1, hC1, h1, o1, tx, f1⟩ := ix_ask (w := w) (show r ≤ 4000 by omega) h
    obtain ⟨y, w2, hC2, h2, o2, ty, f2⟩ := im_ask (w := w1) (show r + 1 ≤ 4000 by omega) h1
    exact ⟨x, w1, y, w2, hC1, hC2, h2, jTw_fl hT (by rw [o2, tx, ty, o1]; exact ht) f1 f2⟩
theorem il_twins : jLn 45 148 2 := by
  intro r w as hr hk h
  obtain ⟨h, hT⟩ := h
  obtain ⟨ht, -⟩ := id hT
  match as, hk with
  | [a1, a2], _ =>
    obtain ⟨x, w1, hC1, h1, o1, tx, f1⟩ := ix_twins (w := w) (a1 := a1) (a2 := a2) (show r ≤ 4000 by omega) h
    obtain ⟨y, w2, hC2, h2, o2, ty, f2⟩ := im_twins (w := w1) (a1 := a1) (a2 := a2) (show r + 1 ≤ 4000 by omega) h1
    exact ⟨x, w1, y, w2, hC1, hC2, h2, jTw_fl hT (by rw [o2, tx, ty, o1]; exact ht) f1 f2⟩
theorem il_late : jLn 25 123 1 := by
  intro r w as hr hk h
  obtain ⟨h, hT⟩ := h
  obtain ⟨ht, -⟩ := id hT
  match as, hk with
  | [a1], _ =>
    obtain ⟨x, w1, hC1, h1, o1, tx, f1⟩ := ix_late (w := w) (a1 := a1) (show r ≤ 4000 by omega) h
    obtain ⟨y, w2, hC2, h2, o2, ty, f2⟩ := im_late (w := w1) (a1 := a1) (show r + 1 ≤ 4000 by omega) h1
    exact ⟨x, w1, y, w2, hC1, hC2, h2, jTw_fl hT (by rw [o2, tx, ty, o1]; exact ht) f1 f2⟩
theorem il_share : jLn 40 141 2 := by
  intro r w as hr hk h
  obtain ⟨h, hT⟩ := h
  obtain ⟨ht, -⟩ := id hT
  match as, hk with
  | [a1, a2], _ =>
    obtain ⟨x, w1, hC1, h1, o1, tx, f1⟩ := ix_share (w := w) (a1 := a1) (a2 := a2) (show r ≤ 4000 by omega) h
    obtain ⟨y, w2, hC2, h2, o2, ty, f2⟩ := im_share (w := w1) (a1 := a1) (a2 := a2) (show r + 1 ≤ 4000 by omega) h1
    exact ⟨x, w1, y, w2, hC1, hC2, h2, jTw_fl hT (by rw [o2, tx, ty, o1]; exact ht) f1 f2⟩
theorem il_clash : jLn 5 97 1 := by
  intro r w as hr hk h
  obtain ⟨h, hT⟩ := h
  obtain ⟨ht, -⟩ := id hT
  match as, hk with
  | [a1], _ =>
    obtain ⟨x, w1, hC1, h1, o1, tx, f1⟩ := ix_clash (w := w) (a1 := a1) (show r ≤ 4000 by omega) h
    obtain ⟨y, w2, hC2, h2, o2, ty, f2⟩ := im_clash (w := w1) (a1 := a1) (show r + 1 ≤ 4000 by omega) h1
    exact ⟨x, w1, y, w2, hC1, hC2, h2, jTw_fl hT (by rw [o2, tx, ty, o1]; exact ht) f1 f2⟩
theorem il_keeps : jLn 24 122 1 := by
  intro r w as hr hk h
  obtain ⟨h, hT⟩ := h
  obtain ⟨ht, -⟩ := id hT
  match as, hk with
  | [a1], _ =>
    obtain ⟨x, w1, hC1, h1, o1, tx, f1⟩ := ix_keeps (w := w) (a1 := a1) (show r ≤ 4000 by omega) h
    obtain ⟨y, w2, hC2, h2, o2, ty, f2⟩ := im_keeps (w := w1) (a1 := a1) (show r + 1 ≤ 4000 by omega) h1
    exact ⟨x, w1, y, w2, hC1, hC2, h2, jTw_fl hT (by rw [o2, tx, ty, o1]; exact ht) f1 f2⟩
theorem il_later : jLn 26 124 2 := by
  intro r w as hr hk h
  obtain ⟨h, hT⟩ := h
  obtain ⟨ht, -⟩ := id hT
  match as, hk with
  | [a1, a2], _ =>
    obtain ⟨x, w1, hC1, h1, o1, tx, f1⟩ := ix_later (w := w) (a1 := a1) (a2 := a2) (show r ≤ 4000 by omega) h
    obtain ⟨y, w2, hC2, h2, o2, ty, f2⟩ := im_later (w := w1) (a1 := a1) (a2 := a2) (show r + 1 ≤ 4000 by omega) h1
    exact ⟨x, w1, y, w2, hC1, hC2, h2, jTw_fl hT (by rw [o2, tx, ty, o1]; exact ht) f1 f2⟩
theorem il_paid : jLn 34 135 1 := by
  intro r w as hr hk h
  obtain ⟨h, hT⟩ := h
  obtain ⟨ht, -⟩ := id hT
  match as, hk with
  | [a1], _ =>
    obtain ⟨x, w1, hC1, h1, o1, tx, f1⟩ := ix_paid (w := w) (a1 := a1) (show r ≤ 4000 by omega) h
    obtain ⟨y, w2, hC2, h2, o2, ty, f2⟩ := im_paid (w := w1) (a1 := a1) (show r + 1 ≤ 4000 by omega) h1
    exact ⟨x, w1, y, w2, hC1, hC2, h2, jTw_fl hT (by rw [o2, tx, ty, o1]; exact ht) f1 f2⟩
theorem il_drawn : jLn 8 100 2 := by
  intro r w as hr hk h
  obtain ⟨h, hT⟩ := h
  obtain ⟨ht, -⟩ := id hT
  match as, hk with
  | [a1, a2], _ =>
    obtain ⟨x, w1, hC1, h1, o1, tx, f1⟩ := ix_drawn (w := w) (a1 := a1) (a2 := a2) (show r ≤ 4000 by omega) h
    obtain ⟨y, w2, hC2, h2, o2, ty, f2⟩ := im_drawn (w := w1) (a1 := a1) (a2 := a2) (show r + 1 ≤ 4000 by omega) h1
    exact ⟨x, w1, y, w2, hC1, hC2, h2, jTw_fl hT (by rw [o2, tx, ty, o1]; exact ht) f1 f2⟩
theorem il_odds : jLn 31 131 3 := by
  intro r w as hr hk h
  obtain ⟨h, hT⟩ := h
  obtain ⟨ht, -⟩ := id hT
  match as, hk with
  | [a1, a2, a3], _ =>
    obtain ⟨x, w1, hC1, h1, o1, tx, f1⟩ := ix_odds (w := w) (a1 := a1) (a2 := a2) (a3 := a3) (show r ≤ 4000 by omega) h
    obtain ⟨y, w2, hC2, h2, o2, ty, f2⟩ := im_odds (w := w1) (a1 := a1) (a2 := a2) (a3 := a3) (show r + 1 ≤ 4000 by omega) h1
    exact ⟨x, w1, y, w2, hC1, hC2, h2, jTw_fl hT (by rw [o2, tx, ty, o1]; exact ht) f1 f2⟩
theorem il_book : jLn 4 96 1 := by
  intro r w as hr hk h
  obtain ⟨h, hT⟩ := h
  obtain ⟨ht, -⟩ := id hT
  match as, hk with
  | [a1], _ =>
    obtain ⟨x, w1, hC1, h1, o1, tx, f1⟩ := ix_book (w := w) (a1 := a1) (show r ≤ 4000 by omega) h
    obtain ⟨y, w2, hC2, h2, o2, ty, f2⟩ := im_book (w := w1) (a1 := a1) (show r + 1 ≤ 4000 by omega) h1
    exact ⟨x, w1, y, w2, hC1, hC2, h2, jTw_fl hT (by
      rcases tx with ⟨c1, tx⟩ | ⟨c1, tx⟩
      · rcases ty with ⟨c2, ty⟩ | ⟨c2, ty⟩
        · rw [o2, tx, ty]
        · exact absurd c1 c2
      · rcases ty with ⟨c2, ty⟩ | ⟨c2, ty⟩
        · exact absurd c2 c1
        · rw [o2, tx, ty, o1]
          exact ht) f1 f2⟩
theorem il_told : jLn 44 146 1 := by
  intro r w as hr hk h
  obtain ⟨h, hT⟩ := h
  obtain ⟨ht, -⟩ := id hT
  match as, hk with
  | [a1], _ =>
    obtain ⟨x, w1, hC1, h1, o1, tx, f1⟩ := ix_told (w := w) (a1 := a1) (show r ≤ 4000 by omega) h
    obtain ⟨y, w2, hC2, h2, o2, ty, f2⟩ := im_told (w := w1) (a1 := a1) (show r + 1 ≤ 4000 by omega) h1
    exact ⟨x, w1, y, w2, hC1, hC2, h2, jTw_fl hT (by rw [o2, tx, ty, o1]; exact ht) f1 f2⟩
theorem il_sentence : jLn 39 140 0 := by
  intro r w as hr hk h
  obtain ⟨h, hT⟩ := h
  obtain ⟨ht, -⟩ := id hT
  match as, hk with
  | [], _ =>
    obtain ⟨x, w1, hC1, h1, o1, tx, f1⟩ := ix_sentence (w := w) (show r ≤ 4000 by omega) h
    obtain ⟨y, w2, hC2, h2, o2, ty, f2⟩ := im_sentence (w := w1) (show r + 1 ≤ 4000 by omega) h1
    exact ⟨x, w1, y, w2, hC1, hC2, h2, jTw_fl hT (by rw [o2, tx, ty]) f1 f2⟩
theorem il_said : jLn 38 139 1 := by
  intro r w as hr hk h
  obtain ⟨h, hT⟩ := h
  obtain ⟨ht, -⟩ := id hT
  match as, hk with
  | [a1], _ =>
    obtain ⟨x, w1, hC1, h1, o1, tx, f1⟩ := ix_said (w := w) (a1 := a1) (show r ≤ 4000 by omega) h
    obtain ⟨y, w2, hC2, h2, o2, ty, f2⟩ := im_said (w := w1) (a1 := a1) (show r + 1 ≤ 4000 by omega) h1
    exact ⟨x, w1, y, w2, hC1, hC2, h2, jTw_fl hT (by rw [o2, tx, ty, o1]; exact ht) f1 f2⟩
theorem ie_image : jLe 17 112 1 := by
  intro r w as hr hk h
  obtain ⟨h, hT⟩ := h
  obtain ⟨ht, q0, q1⟩ := id hT
  match as, hk with
  | [a1], _ =>
    obtain ⟨x, w1, hC1, h1, o1, tx, ex, f1, f2⟩ := ix_image (w := w) (a1 := a1) (show r ≤ 4000 by omega) h
    obtain ⟨y, w2, hC2, h2, o2, ty, ey, f3, f4⟩ := im_image (w := w1) (a1 := a1) (show r + 1 ≤ 4000 by omega) h1
    have htt : (w2.1 0 1).toInt = (w2.1 184 2).toInt := by rw [o2, tx, ty, o1]; exact ht
    rcases ex with ⟨c1, e1, m1, m2⟩ | ⟨c1, e1, m1, m2⟩ | ⟨c1, e1, m1, m2⟩
    · rcases ey with ⟨c2, e2, n1, n2⟩ | ⟨c2, e2, n1, n2⟩ | ⟨c2, e2, n1, n2⟩
      · exact ⟨x, w1, y, w2, hC1, hC2, ⟨h2, htt, by rw [f3, m1, n1], by rw [f4, m2, n2, f2]; exact q1⟩, by rw [e1, e2]⟩
      · exact absurd c1 (by omega)
      · exact absurd c1 (by omega)
    · rcases ey with ⟨c2, e2, n1, n2⟩ | ⟨c2, e2, n1, n2⟩ | ⟨c2, e2, n1, n2⟩
      · exact absurd c1 (by omega)
      · exact ⟨x, w1, y, w2, hC1, hC2, ⟨h2, htt, by rw [f3, m2, n2, f1]; exact q0, by rw [f4, m1, n1]⟩, by rw [e1, e2]⟩
      · exact absurd c1 (by omega)
    · rcases ey with ⟨c2, e2, n1, n2⟩ | ⟨c2, e2, n1, n2⟩ | ⟨c2, e2, n1, n2⟩
      · exact absurd c2 (by omega)
      · exact absurd c2 (by omega)
      · exact ⟨x, w1, y, w2, hC1, hC2, ⟨h2, htt, by rw [f3, m1, n1, f1]; exact q0, by rw [f4, m2, n2, f2]; exact q1⟩, by rw [e1, e2]⟩
theorem il_image : jLn 17 112 1 := jLn_of ie_image
theorem ie_restore : jLe 37 138 1 := by
  intro r w as hr hk h
  obtain ⟨h, hT⟩ := h
  obtain ⟨ht, q0, q1⟩ := id hT
  match as, hk with
  | [a1], _ =>
    obtain ⟨x, w1, hC1, h1, o1, tx, ex, f1⟩ := ix_restore (w := w) (a1 := a1) (show r ≤ 4000 by omega) h
    obtain ⟨y, w2, hC2, h2, o2, ty, ey, f2⟩ := im_restore (w := w1) (a1 := a1) (show r + 1 ≤ 4000 by omega) h1
    have hJ : jTw w2 := jTw_fl hT (by rw [o2, tx, ty, o1]; exact ht) f1 f2
    rw [f1.2.2.1, f1.2.2.2] at ey
    refine ⟨x, w1, y, w2, hC1, hC2, ⟨h2, hJ⟩, ?_⟩
    rcases ex with ⟨c1, c2, e1⟩ | ⟨c1, c2, e1⟩ | ⟨c1, c2, e1⟩
    · rcases ey with ⟨d1, d2, e2⟩ | ⟨d1, d2, e2⟩ | ⟨d1, d2, e2⟩
      · rw [e1, e2]
      · exact absurd c1 (by omega)
      · exact absurd c1 (by omega)
    · rcases ey with ⟨d1, d2, e2⟩ | ⟨d1, d2, e2⟩ | ⟨d1, d2, e2⟩
      · exact absurd c1 (by omega)
      · rw [e1, e2]
      · exact absurd c1 (by omega)
    · rcases ey with ⟨d1, d2, e2⟩ | ⟨d1, d2, e2⟩ | ⟨d1, d2, e2⟩
      · exact absurd d1 (by omega)
      · exact absurd d1 (by omega)
      · rw [e1, e2]
theorem il_restore : jLn 37 138 1 := jLn_of ie_restore
theorem il_count : jLn 7 99 1 := by
  intro r w as hr hk h
  obtain ⟨h, hT⟩ := h
  obtain ⟨ht, -⟩ := id hT
  match as, hk with
  | [a1], _ =>
    obtain ⟨x, w1, hC1, h1, o1, tx, f1⟩ := ix_count (w := w) (a1 := a1) (show r ≤ 4000 by omega) h
    obtain ⟨y, w2, hC2, h2, o2, ty, f2⟩ := im_count (w := w1) (a1 := a1) (show r + 1 ≤ 4000 by omega) h1
    exact ⟨x, w1, y, w2, hC1, hC2, h2, jTw_fl hT (by rw [o2, tx, ty, o1]; exact ht) f1 f2⟩
theorem ie_feed : jLe 13 105 5 := by
  intro r w as hr hk h
  obtain ⟨h, hT⟩ := h
  obtain ⟨ht, -⟩ := id hT
  match as, hk with
  | [a, b, c, d, e], _ =>
    obtain ⟨x, w1, hC1, f1, f2⟩ := hs_feedX a b c d e w h.1
    have hw1 : (∀ k i, k ≠ 1 → ¬ (k = 0 ∧ i = 1) → w1.1 k i = w.1 k i) ∧ sv_w sg w1 ∧ ((w.1 0 1).toInt ≤ 920 → x.toInt = (w.1 0 1).toInt + 20 ∧ (w1.1 0 1).toInt = (w.1 0 1).toInt + 20) ∧ (920 < (w.1 0 1).toInt → x = -1 ∧ w1.1 0 1 = w.1 0 1) := by
      by_cases hc : (w.1 0 1).toInt ≤ 920
      · obtain ⟨g1, g2, g3, -, g5⟩ := f1 hc
        exact ⟨g3, g5, fun _ => ⟨g1, g2⟩, fun z => absurd z (by omega)⟩
      · obtain ⟨g1, g2⟩ := f2 (by omega)
        subst g2
        exact ⟨fun _ _ _ _ => rfl, h.1, fun z => absurd z hc, fun _ => ⟨g1, rfl⟩⟩
    obtain ⟨u1, u2, u3, u4⟩ := hw1
    have h1 : jIw (r + 1) w1 := jIw_fr (fun k i hs => by unfold jSpp jSup at hs; exact u1 k i (by omega) (by omega)) u2 h
    have o1 : w1.1 184 2 = w.1 184 2 := u1 184 2 (by decide) (by omega)
    obtain ⟨y, w2, hC2, f3, f4⟩ := hs_feedM a b c d e w1 u2
    have hw2 : (∀ k i, k ≠ 185 → ¬ (k = 184 ∧ (i = 2 ∨ i = 0)) → w2.1 k i = w1.1 k i) ∧ sv_w sg w2 ∧ ((w1.1 184 2).toInt ≤ 920 → y.toInt = (w1.1 184 2).toInt + 20 ∧ (w2.1 184 2).toInt = (w1.1 184 2).toInt + 20) ∧ (920 < (w1.1 184 2).toInt → y = -1 ∧ w2.1 184 2 = w1.1 184 2) := by
      by_cases hc : (w1.1 184 2).toInt ≤ 920
      · obtain ⟨g1, g2, g3, -, g5⟩ := f3 hc
        exact ⟨fun k i k1 k2 => (g3 k i k1 (by omega)).trans (hs_u1_ne (by omega)), g5, fun _ => ⟨g1, g2⟩, fun z => absurd z (by omega)⟩
      · obtain ⟨g1, g2⟩ := f4 (by omega)
        subst g2
        refine ⟨fun k i k1 k2 => hs_u1_ne (by omega), sv_w_u1 u2 (by rw [xg_59f145a5]; exact hb_mk (by decide) (by decide)), fun z => absurd z hc, fun _ => ⟨g1, hs_u1_ne (by omega)⟩⟩
    obtain ⟨v1, v2, v3, v4⟩ := hw2
    have h2 : jIw (r + 2) w2 := jIw_fr (fun k i hs => by unfold jSpp jSup at hs; exact v1 k i (by omega) (by omega)) v2 h1
    have o2 : w2.1 0 1 = w1.1 0 1 := v1 0 1 (by decide) (by omega)
    rw [o1] at v3 v4
    refine ⟨x, w1, y, w2, cm_C_mono (by decide) hC1, cm_C_mono (by decide) hC2, ⟨h2, jTw_fl hT ?_ ⟨u1 130 0 (by omega) (by omega), u1 157 0 (by omega) (by omega), u1 203 0 (by omega) (by omega), u1 203 1 (by omega) (by omega)⟩ ⟨v1 130 0 (by omega) (by omega), v1 157 0 (by omega) (by omega), v1 203 0 (by omega) (by omega), v1 203 1 (by omega) (by omega)⟩⟩, ?_⟩
    · by_cases hc : (w.1 0 1).toInt ≤ 920
      · rw [o2, (u3 hc).2, (v3 (by omega)).2]; omega
      · rw [o2, (u4 (by omega)).2, (v4 (by omega)).2]; exact ht
    · by_cases hc : (w.1 0 1).toInt ≤ 920
      · exact Int32.toInt_inj.mp (by rw [(u3 hc).1, (v3 (by omega)).1]; omega)
      · rw [(u4 (by omega)).1, (v4 (by omega)).1]
theorem il_feed : jLn 13 105 5 := jLn_of ie_feed
