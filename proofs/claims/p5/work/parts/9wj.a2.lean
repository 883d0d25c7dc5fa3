/-! ### the class's rows -/
def vl_x (j : Nat) : Nat × Nat := if j < 4 then (0, j + 3) else if j < 7 then (0, j - 4) else if j < 13 then (4, j - 7) else if j < 19 then (5, j - 13) else if j < 25 then (6, j - 19) else if j < 29 then (7, j - 25) else if j < 33 then (8, j - 29) else if j < 39 then (9, j - 33) else if j < 49 then (10, j - 39) else if j < 59 then (11, j - 49) else if j < 69 then (12, j - 59) else (13, j - 69)
def vl_c (v j : Nat) : Nat := v + (vl_x j).1
def vl_i (j : Nat) : Nat := (vl_x j).2
theorem vl_x_b (j : Nat) : ((vl_x j).1 = 0 ∧ ((j < 4 ∧ (vl_x j).2 = j + 3) ∨ (4 ≤ j ∧ j < 7 ∧ (vl_x j).2 + 4 = j))) ∨ ((vl_x j).1 = 4 ∧ 7 ≤ j ∧ j < 13 ∧ (vl_x j).2 + 7 = j) ∨ ((vl_x j).1 = 5 ∧ 13 ≤ j ∧ j < 19 ∧ (vl_x j).2 + 13 = j) ∨ ((vl_x j).1 = 6 ∧ 19 ≤ j ∧ j < 25 ∧ (vl_x j).2 + 19 = j) ∨ ((vl_x j).1 = 7 ∧ 25 ≤ j ∧ j < 29 ∧ (vl_x j).2 + 25 = j) ∨ ((vl_x j).1 = 8 ∧ 29 ≤ j ∧ j < 33 ∧ (vl_x j).2 + 29 = j) ∨ ((vl_x j).1 = 9 ∧ 33 ≤ j ∧ j < 39 ∧ (vl_x j).2 + 33 = j) ∨ ((vl_x j).1 = 10 ∧ 39 ≤ j ∧ j < 49 ∧ (vl_x j).2 + 39 = j) ∨ ((vl_x j).1 = 11 ∧ 49 ≤ j ∧ j < 59 ∧ (vl_x j).2 + 49 = j) ∨ ((vl_x j).1 = 12 ∧ 59 ≤ j ∧ j < 69 ∧ (vl_x j).2 + 59 = j) ∨ ((vl_x j).1 = 13 ∧ 69 ≤ j ∧ (vl_x j).2 + 69 = j) := by
  rcases Nat.lt_or_ge j 4 with h0 | h0
  · skip
    have e : vl_x j = (0, j + 3) := by
      unfold vl_x
      rw [if_pos (by omega)]
    rw [e]
    exact .inl ⟨rfl, .inl ⟨by omega, rfl⟩⟩
  · skip
    rcases Nat.lt_or_ge j 7 with h1 | h1
    · skip
      have e : vl_x j = (0, j - 4) := by
        unfold vl_x
        rw [if_neg (by omega), if_pos (by omega)]
      rw [e]
      exact .inl ⟨rfl, .inr ⟨by omega, by omega, (show j - 4 + 4 = j from by omega)⟩⟩
    · skip
      rcases Nat.lt_or_ge j 13 with h2 | h2
      · skip
        have e : vl_x j = (4, j - 7) := by
          unfold vl_x
          rw [if_neg (by omega), if_neg (by omega), if_pos (by omega)]
        rw [e]
        exact .inr (.inl ⟨rfl, by omega, by omega, (show j - 7 + 7 = j from by omega)⟩)
      · skip
        rcases Nat.lt_or_ge j 19 with h3 | h3
        · skip
          have e : vl_x j = (5, j - 13) := by
            unfold vl_x
            rw [if_neg (by omega), if_neg (by omega), if_neg (by omega), if_pos (by omega)]
          rw [e]
          exact .inr (.inr (.inl ⟨rfl, by omega, by omega, (show j - 13 + 13 = j from by omega)⟩))
        · skip
          rcases Nat.lt_or_ge j 25 with h4 | h4
          · skip
            have e : vl_x j = (6, j - 19) := by
              unfold vl_x
              rw [if_neg (by omega), if_neg (by omega), if_neg (by omega), if_neg (by omega), if_pos (by omega)]
            rw [e]
            exact .inr (.inr (.inr (.inl ⟨rfl, by omega, by omega, (show j - 19 + 19 = j from by omega)⟩)))
          · skip
            rcases Nat.lt_or_ge j 29 with h5 | h5
            · skip
              have e : vl_x j = (7, j - 25) := by
                unfold vl_x
                rw [if_neg (by omega), if_neg (by omega), if_neg (by omega), if_neg (by omega), if_neg (by omega), if_pos (by omega)]
              rw [e]
              exact .inr (.inr (.inr (.inr (.inl ⟨rfl, by omega, by omega, (show j - 25 + 25 = j from by omega)⟩))))
            · skip
              rcases Nat.lt_or_ge j 33 with h6 | h6
              · skip
                have e : vl_x j = (8, j - 29) := by
                  unfold vl_x
                  rw [if_neg (by omega), if_neg (by omega), if_neg (by omega), if_neg (by omega), if_neg (by omega), if_neg (by omega), if_pos (by omega)]
                rw [e]
                exact .inr (.inr (.inr (.inr (.inr (.inl ⟨rfl, by omega, by omega, (show j - 29 + 29 = j from by omega)⟩)))))
              · skip
                rcases Nat.lt_or_ge j 39 with h7 | h7
                · skip
                  have e : vl_x j = (9, j - 33) := by
                    unfold vl_x
                    rw [if_neg (by omega), if_neg (by omega), if_neg (by omega), if_neg (by omega), if_neg (by omega), if_neg (by omega), if_neg (by omega), if_pos (by omega)]
                  rw [e]
                  exact .inr (.inr (.inr (.inr (.inr (.inr (.inl ⟨rfl, by omega, by omega, (show j - 33 + 33 = j from by omega)⟩))))))
                · skip
                  rcases Nat.lt_or_ge j 49 with h8 | h8
                  · skip
                    have e : vl_x j = (10, j - 39) := by
                      unfold vl_x
                      rw [if_neg (by omega), if_neg (by omega), if_neg (by omega), if_neg (by omega), if_neg (by omega), if_neg (by omega), if_neg (by omega), if_neg (by omega), if_pos (by omega)]
                    rw [e]
                    exact .inr (.inr (.inr (.inr (.inr (.inr (.inr (.inl ⟨rfl, by omega, by omega, (show j - 39 + 39 = j from by omega)⟩)))))))
                  · skip
                    rcases Nat.lt_or_ge j 59 with h9 | h9
                    · skip
                      have e : vl_x j = (11, j - 49) := by
                        unfold vl_x
                        rw [if_neg (by omega), if_neg (by omega), if_neg (by omega), if_neg (by omega), if_neg (by omega), if_neg (by omega), if_neg (by omega), if_neg (by omega), if_neg (by omega), if_pos (by omega)]
                      rw [e]
                      exact .inr (.inr (.inr (.inr (.inr (.inr (.inr (.inr (.inl ⟨rfl, by omega, by omega, (show j - 49 + 49 = j from by omega)⟩))))))))
                    · skip
                      rcases Nat.lt_or_ge j 69 with h10 | h10
                      · skip
                        have e : vl_x j = (12, j - 59) := by
                          unfold vl_x
                          rw [if_neg (by omega), if_neg (by omega), if_neg (by omega), if_neg (by omega), if_neg (by omega), if_neg (by omega), if_neg (by omega), if_neg (by omega), if_neg (by omega), if_neg (by omega), if_pos (by omega)]
                        rw [e]
                        exact .inr (.inr (.inr (.inr (.inr (.inr (.inr (.inr (.inr (.inl ⟨rfl, by omega, by omega, (show j - 59 + 59 = j from by omega)⟩)))))))))
                      · skip
                        have e : vl_x j = (13, j - 69) := by
                          unfold vl_x
                          rw [if_neg (by omega), if_neg (by omega), if_neg (by omega), if_neg (by omega), if_neg (by omega), if_neg (by omega), if_neg (by omega), if_neg (by omega), if_neg (by omega), if_neg (by omega), if_neg (by omega)]
                        rw [e]
                        exact .inr (.inr (.inr (.inr (.inr (.inr (.inr (.inr (.inr (.inr (⟨rfl, by omega, (show j - 69 + 69 = j from by omega)⟩))))))))))
def vl_d (v j : Nat) : Nat := if j < 6 then v + 1 else if j < 10 then v + 2 else v + 3
def vl_k (j : Nat) : Nat := if j < 6 then j else if j < 10 then j - 6 else j - 10
/-- a valley's numbers and names in the class's cells, the valley's own cell v -/
def vl_H (w : cm_W) (v : Nat) : Nat → Int := fun j => (w.1 (vl_c v j) (vl_i j)).toInt
def vl_N (w : cm_W) (v : Nat) : Nat → Int64 := fun j => w.2 (vl_d v j) (vl_k j)
theorem vl_c_b (v j : Nat) : v ≤ vl_c v j ∧ vl_c v j ≤ v + 13 := by
  unfold vl_c
  rcases vl_x_b j with ⟨h1, h | h⟩ | h | h | h | h | h | h | h | h | h | h
  all_goals omega
theorem vl_d_b (v j : Nat) : v + 1 ≤ vl_d v j ∧ vl_d v j ≤ v + 3 := by
  unfold vl_d
  repeat' split
  all_goals omega
theorem vl_H_u1 {w : cm_W} {v c i q : Nat} {x : Int32} {e : Int} (hx : x.toInt = e) (hq : ∀ j, (vl_c v j = c ∧ vl_i j = i) ↔ j = q) : vl_H (cm_u1 w c i x) v = ps_up (vl_H w v) q e := by
  funext j
  show (if vl_c v j = c ∧ vl_i j = i then x else w.1 (vl_c v j) (vl_i j)).toInt = if j = q then e else (w.1 (vl_c v j) (vl_i j)).toInt
  by_cases z : j = q
  · rw [if_pos z, if_pos ((hq j).mpr z), hx]
  · rw [if_neg z, if_neg (fun z2 => z ((hq j).mp z2))]
theorem vl_N_u2 {w : cm_W} {v c i q : Nat} {x : Int64} (hq : ∀ j, (vl_d v j = c ∧ vl_k j = i) ↔ j = q) : vl_N (cm_u2 w c i x) v = ps_un (vl_N w v) q x := by
  funext j
  show (if vl_d v j = c ∧ vl_k j = i then x else w.2 (vl_d v j) (vl_k j)) = if j = q then x else w.2 (vl_d v j) (vl_k j)
  by_cases z : j = q
  · rw [if_pos z, if_pos ((hq j).mpr z)]
  · rw [if_neg z, if_neg (fun z2 => z ((hq j).mp z2))]
theorem vl_H_fr {w w' : cm_W} {v : Nat} (h : ∀ k i, v ≤ k → k ≤ v + 13 → w'.1 k i = w.1 k i) : vl_H w' v = vl_H w v := by
  funext j
  show (w'.1 (vl_c v j) (vl_i j)).toInt = _
  rw [h _ _ (vl_c_b v j).1 (vl_c_b v j).2]
  rfl
theorem vl_N_fr {w w' : cm_W} {v : Nat} (h : ∀ k i, v + 1 ≤ k → k ≤ v + 3 → w'.2 k i = w.2 k i) : vl_N w' v = vl_N w v := by
  funext j
  show w'.2 (vl_d v j) (vl_k j) = _
  rw [h _ _ (vl_d_b v j).1 (vl_d_b v j).2]
  rfl
theorem vl_q0 (v j : Nat) : (vl_c v j = v ∧ vl_i j = 0) ↔ j = 4 := by
  unfold vl_c vl_i
  rcases vl_x_b j with ⟨h1, h | h⟩ | h | h | h | h | h | h | h | h | h | h
  all_goals omega
theorem vl_q1 (v j : Nat) : (vl_c v j = v ∧ vl_i j = 1) ↔ j = 5 := by
  unfold vl_c vl_i
  rcases vl_x_b j with ⟨h1, h | h⟩ | h | h | h | h | h | h | h | h | h | h
  all_goals omega
theorem vl_q2 (v j : Nat) : (vl_c v j = v ∧ vl_i j = 2) ↔ j = 6 := by
  unfold vl_c vl_i
  rcases vl_x_b j with ⟨h1, h | h⟩ | h | h | h | h | h | h | h | h | h | h
  all_goals omega
theorem vl_q3 (v j : Nat) : (vl_c v j = v ∧ vl_i j = 3) ↔ j = 0 := by
  unfold vl_c vl_i
  rcases vl_x_b j with ⟨h1, h | h⟩ | h | h | h | h | h | h | h | h | h | h
  all_goals omega
theorem vl_q4 (v j : Nat) : (vl_c v j = v ∧ vl_i j = 4) ↔ j = 1 := by
  unfold vl_c vl_i
  rcases vl_x_b j with ⟨h1, h | h⟩ | h | h | h | h | h | h | h | h | h | h
  all_goals omega
theorem vl_q5 (v j : Nat) : (vl_c v j = v ∧ vl_i j = 5) ↔ j = 2 := by
  unfold vl_c vl_i
  rcases vl_x_b j with ⟨h1, h | h⟩ | h | h | h | h | h | h | h | h | h | h
  all_goals omega
theorem vl_q6 (v j : Nat) : (vl_c v j = v ∧ vl_i j = 6) ↔ j = 3 := by
  unfold vl_c vl_i
  rcases vl_x_b j with ⟨h1, h | h⟩ | h | h | h | h | h | h | h | h | h | h
  all_goals omega
theorem vl_r4 (v : Nat) {i : Nat} (hi : i < 6) (j : Nat) : (vl_c v j = v + 4 ∧ vl_i j = i) ↔ j = 7 + i := by
  unfold vl_c vl_i
  rcases vl_x_b j with ⟨h1, h | h⟩ | h | h | h | h | h | h | h | h | h | h
  all_goals omega
theorem vl_r5 (v : Nat) {i : Nat} (hi : i < 6) (j : Nat) : (vl_c v j = v + 5 ∧ vl_i j = i) ↔ j = 13 + i := by
  unfold vl_c vl_i
  rcases vl_x_b j with ⟨h1, h | h⟩ | h | h | h | h | h | h | h | h | h | h
  all_goals omega
theorem vl_r6 (v : Nat) {i : Nat} (hi : i < 6) (j : Nat) : (vl_c v j = v + 6 ∧ vl_i j = i) ↔ j = 19 + i := by
  unfold vl_c vl_i
  rcases vl_x_b j with ⟨h1, h | h⟩ | h | h | h | h | h | h | h | h | h | h
  all_goals omega
theorem vl_r7 (v : Nat) {i : Nat} (hi : i < 4) (j : Nat) : (vl_c v j = v + 7 ∧ vl_i j = i) ↔ j = 25 + i := by
  unfold vl_c vl_i
  rcases vl_x_b j with ⟨h1, h | h⟩ | h | h | h | h | h | h | h | h | h | h
  all_goals omega
theorem vl_r8 (v : Nat) {i : Nat} (hi : i < 4) (j : Nat) : (vl_c v j = v + 8 ∧ vl_i j = i) ↔ j = 29 + i := by
  unfold vl_c vl_i
  rcases vl_x_b j with ⟨h1, h | h⟩ | h | h | h | h | h | h | h | h | h | h
  all_goals omega
theorem vl_r9 (v : Nat) {i : Nat} (hi : i < 6) (j : Nat) : (vl_c v j = v + 9 ∧ vl_i j = i) ↔ j = 33 + i := by
  unfold vl_c vl_i
  rcases vl_x_b j with ⟨h1, h | h⟩ | h | h | h | h | h | h | h | h | h | h
  all_goals omega
theorem vl_r10 (v : Nat) {i : Nat} (hi : i < 10) (j : Nat) : (vl_c v j = v + 10 ∧ vl_i j = i) ↔ j = 39 + i := by
  unfold vl_c vl_i
  rcases vl_x_b j with ⟨h1, h | h⟩ | h | h | h | h | h | h | h | h | h | h
  all_goals omega
theorem vl_r11 (v : Nat) {i : Nat} (hi : i < 10) (j : Nat) : (vl_c v j = v + 11 ∧ vl_i j = i) ↔ j = 49 + i := by
  unfold vl_c vl_i
  rcases vl_x_b j with ⟨h1, h | h⟩ | h | h | h | h | h | h | h | h | h | h
  all_goals omega
theorem vl_r12 (v : Nat) {i : Nat} (hi : i < 10) (j : Nat) : (vl_c v j = v + 12 ∧ vl_i j = i) ↔ j = 59 + i := by
  unfold vl_c vl_i
  rcases vl_x_b j with ⟨h1, h | h⟩ | h | h | h | h | h | h | h | h | h | h
  all_goals omega
theorem vl_r13 (v : Nat) {i : Nat} (j : Nat) : (vl_c v j = v + 13 ∧ vl_i j = i) ↔ j = 69 + i := by
  unfold vl_c vl_i
  rcases vl_x_b j with ⟨h1, h | h⟩ | h | h | h | h | h | h | h | h | h | h
  all_goals omega
theorem vl_s1 (v : Nat) {i : Nat} (hi : i < 6) (j : Nat) : (vl_d v j = v + 1 ∧ vl_k j = i) ↔ j = 0 + i := by
  unfold vl_d vl_k
  repeat' split
  all_goals omega
theorem vl_s2 (v : Nat) {i : Nat} (hi : i < 4) (j : Nat) : (vl_d v j = v + 2 ∧ vl_k j = i) ↔ j = 6 + i := by
  unfold vl_d vl_k
  repeat' split
  all_goals omega
theorem vl_s3 (v : Nat) {i : Nat} (j : Nat) : (vl_d v j = v + 3 ∧ vl_k j = i) ↔ j = 10 + i := by
  unfold vl_d vl_k
  repeat' split
  all_goals omega
