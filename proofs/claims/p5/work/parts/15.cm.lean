/-! ## a plain machine over the same code: ints and longs are the machine's own, the world's shape is fixed, what it holds is a function -/
abbrev cm_V : Type := Int32 ⊕ (Int64 ⊕ Option Nat)
abbrev cm_W : Type := (Nat → Nat → Int32) × (Nat → Nat → Int64)
abbrev cm_L : Type := List (Option cm_V)
abbrev cm_O : Type := Option cm_V × cm_W
noncomputable def cm_e (v : cm_V) : ia_V := match v with
  | .inl x => .inl (ia_E x, ia_E x)
  | .inr (.inl x) => .inr (.inl x.toBitVec.toNat)
  | .inr (.inr q) => .inr (.inr (.inl q))
noncomputable def cm_el (l : cm_L) : List (Option ia_V) := l.map (Option.map cm_e)
noncomputable def cm_es (l : List cm_V) : List ia_V := l.map cm_e
/-! ### rows of sixteen -/
def cm_row {α : Type} (f : Nat → α) (r : Nat) : List α := (List.range 16).map (fun j => f (16 * r + j))
def cm_tab {α : Type} (len : Nat) (f : Nat → α) : List (List α) := (List.range ((len + 15) / 16)).map (cm_row f)
theorem cm_row_at {α : Type} (f : Nat → α) (r j : Nat) (h : j < 16) : (cm_row f r)[j]? = some (f (16 * r + j)) := by
  unfold cm_row
  rw [List.getElem?_map, List.getElem?_range h]
  rfl
theorem cm_tab_at {α : Type} (len : Nat) (f : Nat → α) (r : Nat) (h : r < (len + 15) / 16) : (cm_tab len f)[r]? = some (cm_row f r) := by
  unfold cm_tab
  rw [List.getElem?_map, List.getElem?_range h]
  rfl
theorem cm_tab_get {α : Type} (len : Nat) (f : Nat → α) (k : Nat) (h : k < len) : ia_get2 (cm_tab len f) k = some (f k) := by
  refine ia_get2_of (c := cm_row f (k / 16)) (cm_tab_at len f _ (by omega)) ?_
  rw [cm_row_at f _ _ (by omega)]
  congr 2
  omega
theorem cm_row_len {α : Type} (f : Nat → α) (r : Nat) : (cm_row f r).length = 16 := by
  unfold cm_row
  rw [List.length_map, List.length_range]
theorem cm_tab_len {α : Type} (len : Nat) (f : Nat → α) : (cm_tab len f).length = (len + 15) / 16 := by
  unfold cm_tab
  rw [List.length_map, List.length_range]
theorem cm_tab_set {α : Type} (len : Nat) (f g : Nat → α) (k : Nat) (v : α) (h : k < len) (h1 : g k = v) (h2 : ∀ j, j ≠ k → g j = f j) : ia_set2 (cm_tab len f) k v = cm_tab len g := by
  have hr : k / 16 < (len + 15) / 16 := by omega
  have e1 : ia_at (cm_tab len f) (Nat.div k 16) = some (cm_row f (k / 16)) := by
    rw [ia_at_eq]
    exact cm_tab_at len f _ hr
  unfold ia_set2
  rw [e1]
  show (cm_tab len f).set (k / 16) ((cm_row f (k / 16)).set (k % 16) v) = cm_tab len g
  apply List.ext_getElem?
  intro i
  by_cases hi : i < (len + 15) / 16
  · rw [cm_tab_at len g i hi]
    by_cases hk : i = k / 16
    · subst hk
      rw [List.getElem?_set_self (by rw [cm_tab_len]; exact hi)]
      congr 1
      apply List.ext_getElem?
      intro j
      by_cases hj : j < 16
      · rw [cm_row_at g _ j hj]
        by_cases hjk : j = k % 16
        · subst hjk
          rw [List.getElem?_set_self (by rw [cm_row_len]; exact hj), ← h1]
          congr 2
          omega
        · rw [List.getElem?_set_ne (fun z => hjk z.symm), cm_row_at f _ j hj, h2 _ (by omega)]
      · rw [List.getElem?_eq_none (by rw [List.length_set, cm_row_len]; omega), List.getElem?_eq_none (by rw [cm_row_len]; omega)]
    · rw [List.getElem?_set_ne (fun z => hk z.symm), cm_tab_at len f i hi]
      congr 1
      unfold cm_row
      apply List.map_congr_left
      intro j hj
      exact (h2 _ (by have := List.mem_range.mp hj; omega)).symm
  · rw [List.getElem?_eq_none (by rw [List.length_set, cm_tab_len]; omega), List.getElem?_eq_none (by rw [cm_tab_len]; omega)]
theorem cm_tab_congr {α : Type} (len : Nat) (f g : Nat → α) (h : ∀ j, f j = g j) : cm_tab len f = cm_tab len g := by
  have : f = g := funext h
  rw [this]
/-! ### the world -/
noncomputable def cm_sh (k : Nat) : Option (Nat × Nat × List Nat) := ia_at cm_Sh k
noncomputable def cm_code (c : Nat × Nat × List Nat) (i : Nat) : Nat := match ia_at c.2.2 i with
  | some z => z
  | none => (match Nat.beq c.1 51 with
    | true => 1
    | false => 0)
noncomputable def cm_v (w : cm_W) (k i z : Nat) : cm_V := match z with
  | 0 => .inl (w.1 k i)
  | 1 => .inr (.inl (w.2 k i))
  | 2 => .inr (.inr none)
  | z + 3 => .inr (.inr (some z))
noncomputable def cm_cell (w : cm_W) (k : Nat) : ia_C := match cm_sh k with
  | some c => (c.1, c.2.1, cm_tab c.2.1 (fun i => cm_e (cm_v w k i (cm_code c i))))
  | none => (99, 0, [])
noncomputable def cm_s (w : cm_W) : ia_H := cm_tab 256 (cm_cell w)
def cm_u1 (w : cm_W) (k i : Nat) (x : Int32) : cm_W := (fun a b => if a = k ∧ b = i then x else w.1 a b, w.2)
def cm_u2 (w : cm_W) (k i : Nat) (x : Int64) : cm_W := (w.1, fun a b => if a = k ∧ b = i then x else w.2 a b)
def cm_cp (w : cm_W) (d s n : Nat) : cm_W := (fun a b => if a = d ∧ b < n then w.1 s b else w.1 a b, fun a b => if a = d ∧ b < n then w.2 s b else w.2 a b)
noncomputable def cm_put (w : cm_W) (k i z : Nat) (v : cm_V) : Option cm_W := match z, v with
  | 0, .inl x => some (cm_u1 w k i x)
  | 1, .inr (.inl x) => some (cm_u2 w k i x)
  | _, _ => none
set_option maxRecDepth 100000 in
theorem cm_Sh_len : cm_Sh.length = 205 := by decide +kernel
theorem cm_sh_lt {k : Nat} {c : Nat × Nat × List Nat} (h : cm_sh k = some c) : k < 256 := by
  unfold cm_sh at h
  rw [ia_at_eq] at h
  have := (List.getElem?_eq_some_iff.mp h).1
  rw [cm_Sh_len] at this
  omega
theorem cm_s_get {w : cm_W} {k : Nat} {c : Nat × Nat × List Nat} (h : cm_sh k = some c) : ia_get2 (cm_s w) k = some (c.1, c.2.1, cm_tab c.2.1 (fun i => cm_e (cm_v w k i (cm_code c i)))) := by
  unfold cm_s
  rw [cm_tab_get _ _ _ (cm_sh_lt h), cm_cell, h]
theorem cm_cell_at {w : cm_W} {k i : Nat} {c : Nat × Nat × List Nat} (hi : i < c.2.1) : ia_get2 (cm_tab c.2.1 (fun i => cm_e (cm_v w k i (cm_code c i)))) i = some (cm_e (cm_v w k i (cm_code c i))) := cm_tab_get _ _ _ hi
theorem cm_v_u1 {w : cm_W} {k i a b z : Nat} {x : Int32} (h : ¬ (a = k ∧ b = i)) : cm_v (cm_u1 w k i x) a b z = cm_v w a b z := by
  unfold cm_v cm_u1
  split
  · show Sum.inl (if a = k ∧ b = i then x else w.1 a b) = _
    rw [if_neg h]
  · rfl
  · rfl
  · rfl
theorem cm_v_u2 {w : cm_W} {k i a b z : Nat} {x : Int64} (h : ¬ (a = k ∧ b = i)) : cm_v (cm_u2 w k i x) a b z = cm_v w a b z := by
  unfold cm_v cm_u2
  split
  · rfl
  · show Sum.inr (Sum.inl (if a = k ∧ b = i then x else w.2 a b)) = _
    rw [if_neg h]
  · rfl
  · rfl
theorem cm_v_put {w w' : cm_W} {k i a b z z2 : Nat} {v : cm_V} (hp : cm_put w k i z v = some w') (h : ¬ (a = k ∧ b = i)) : cm_v w' a b z2 = cm_v w a b z2 := by
  unfold cm_put at hp
  split at hp
  · cases hp; exact cm_v_u1 h
  · cases hp; exact cm_v_u2 h
  · cases hp
theorem cm_v_put_self {w w' : cm_W} {k i z : Nat} {v : cm_V} (hp : cm_put w k i z v = some w') : cm_v w' k i z = v := by
  unfold cm_put at hp
  split at hp
  · cases hp
    unfold cm_v cm_u1
    show Sum.inl (if k = k ∧ i = i then _ else _) = _
    rw [if_pos ⟨rfl, rfl⟩]
  · cases hp
    unfold cm_v cm_u2
    show Sum.inr (Sum.inl (if k = k ∧ i = i then _ else _)) = _
    rw [if_pos ⟨rfl, rfl⟩]
  · cases hp
theorem cm_s_set {w w' : cm_W} {k : Nat} {c : Nat × Nat × List Nat} {fs : List (List ia_V)} (h : cm_sh k = some c) (hfs : fs = cm_tab c.2.1 (fun i => cm_e (cm_v w' k i (cm_code c i)))) (hne : ∀ a b z, a ≠ k → cm_v w' a b z = cm_v w a b z) : ia_set2 (cm_s w) k (c.1, c.2.1, fs) = cm_s w' := by
  unfold cm_s
  refine cm_tab_set _ _ _ _ _ (cm_sh_lt h) ?_ (fun j hj => ?_)
  · rw [cm_cell, h, hfs]
  · unfold cm_cell
    split
    · congr 2
      apply cm_tab_congr
      intro i
      rw [hne _ _ _ hj]
    · rfl
theorem cm_s_put {w w' : cm_W} {k i : Nat} {v : cm_V} {c : Nat × Nat × List Nat} (h : cm_sh k = some c) (hi : i < c.2.1) (hp : cm_put w k i (cm_code c i) v = some w') : ia_set2 (cm_s w) k (c.1, c.2.1, ia_set2 (cm_tab c.2.1 (fun i => cm_e (cm_v w k i (cm_code c i)))) i (cm_e v)) = cm_s w' := by
  refine cm_s_set h ?_ (fun a b z hz => cm_v_put hp (fun q => hz q.1))
  refine cm_tab_set _ _ _ _ _ hi ?_ (fun j hj => ?_)
  · rw [cm_v_put_self hp]
  · rw [cm_v_put hp (fun q => hj q.2)]
theorem cm_v_cp {w : cm_W} {d s n a b z : Nat} (h : ¬ (a = d ∧ b < n)) : cm_v (cm_cp w d s n) a b z = cm_v w a b z := by
  unfold cm_v cm_cp
  split
  · show Sum.inl (if a = d ∧ b < n then w.1 s b else w.1 a b) = _
    rw [if_neg h]
  · show Sum.inr (Sum.inl (if a = d ∧ b < n then w.2 s b else w.2 a b)) = _
    rw [if_neg h]
  · rfl
  · rfl
theorem cm_v_cp_self {w : cm_W} {d s n b z : Nat} (h : b < n) : cm_v (cm_cp w d s n) d b z = cm_v w s b z := by
  unfold cm_v cm_cp
  split
  · show Sum.inl (if d = d ∧ b < n then w.1 s b else w.1 d b) = _
    rw [if_pos ⟨rfl, h⟩]
  · show Sum.inr (Sum.inl (if d = d ∧ b < n then w.2 s b else w.2 d b)) = _
    rw [if_pos ⟨rfl, h⟩]
  · rfl
  · rfl
theorem cm_tab_congr16 {α : Type} (len : Nat) (f g : Nat → α) (h : ∀ j, j < 16 * ((len + 15) / 16) → f j = g j) : cm_tab len f = cm_tab len g := by
  unfold cm_tab
  apply List.map_congr_left
  intro r hr
  have hr' := List.mem_range.mp hr
  unfold cm_row
  apply List.map_congr_left
  intro j hj
  have hj' := List.mem_range.mp hj
  exact h _ (by omega)
/-! ### an instruction -/
abbrev cm_A : Type := Nat × cm_L × List cm_V × cm_W
noncomputable def cm_nx (pc : Nat) (lv : cm_L) (st : List cm_V) (w : cm_W) : Option cm_A := some (pc, lv, st, w)
noncomputable def cm_ld (kd i len pc : Nat) (lv : cm_L) (st : List cm_V) (w : cm_W) : Option cm_A := match ia_at lv i with
  | some (some v) => ia_if (ia_kd kd (cm_e v)) (cm_nx (Nat.add pc len) lv (v :: st) w)
  | _ => none
noncomputable def cm_sto (kd i len pc : Nat) (lv : cm_L) (st : List cm_V) (w : cm_W) : Option cm_A := match st with
  | v :: t => ia_if (ia_kd kd (cm_e v) && ia_nl (cm_el lv) i) (cm_nx (Nat.add pc len) (lv.set i (some v)) t w)
  | [] => none
noncomputable def cm_stl (i len pc : Nat) (lv : cm_L) (st : List cm_V) (w : cm_W) : Option cm_A := match st with
  | .inr (.inl v) :: t => ia_if (ia_nl (cm_el lv) i) (cm_nx (Nat.add pc len) ((lv.set i (some (.inr (.inl v)))).set (Nat.succ i) none) t w)
  | _ => none
noncomputable def cm_bin (f : Int32 → Int32 → Int32) (pc : Nat) (lv : cm_L) (st : List cm_V) (w : cm_W) : Option cm_A := match st with
  | .inl b :: .inl a :: t => cm_nx (Nat.add pc 1) lv (.inl (f a b) :: t) w
  | _ => none
noncomputable def cm_cmp (c : ClassFile.Cond) (a b : Int32) : Bool := match c with
  | .eq => decide (a = b)
  | .ne => !(decide (a = b))
  | .lt => decide (a < b)
  | .ge => !(decide (a < b))
  | .gt => decide (b < a)
  | .le => !(decide (b < a))
noncomputable def cm_jmp (o : Int) (pc : Nat) (lv : cm_L) (st : List cm_V) (w : cm_W) : Option cm_A := match Int.add (Int.ofNat pc) o with
  | .ofNat t => cm_nx t lv st w
  | .negSucc _ => none
noncomputable def cm_br (r : Bool) (o : Int) (pc : Nat) (lv : cm_L) (st : List cm_V) (w : cm_W) : Option cm_A := match Int.add (Int.ofNat pc) o with
  | .ofNat t => (match r with
    | true => cm_nx t lv st w
    | false => cm_nx (Nat.add pc 3) lv st w)
  | .negSucc _ => none
noncomputable def cm_in (a : Int32) (n : Nat) : Bool := decide (0 ≤ a.toInt) && Nat.blt a.toInt.toNat n
noncomputable def cm_al (tg : Nat) (pc : Nat) (lv : cm_L) (st : List cm_V) (w : cm_W) : Option cm_A := match st with
  | .inl a :: .inr (.inr (some k)) :: t => (match cm_sh k with
    | some c => ia_if (Nat.beq c.1 tg && cm_in a c.2.1) (cm_nx (Nat.add pc 1) lv (cm_v w k a.toInt.toNat (cm_code c a.toInt.toNat) :: t) w)
    | none => none)
  | _ => none
noncomputable def cm_as (tg : Nat) (g : Int32 → Int32) (pc : Nat) (lv : cm_L) (st : List cm_V) (w : cm_W) : Option cm_A := match st with
  | .inl x :: .inl a :: .inr (.inr (some k)) :: t => (match cm_sh k with
    | some c => ia_if (Nat.beq c.1 tg && (cm_in a c.2.1 && Nat.beq (cm_code c a.toInt.toNat) 0)) (cm_nx (Nat.add pc 1) lv t (cm_u1 w k a.toInt.toNat (g x)))
    | none => none)
  | _ => none
noncomputable def cm_asl (pc : Nat) (lv : cm_L) (st : List cm_V) (w : cm_W) : Option cm_A := match st with
  | .inr (.inl x) :: .inl a :: .inr (.inr (some k)) :: t => (match cm_sh k with
    | some c => ia_if (Nat.beq c.1 51 && (cm_in a c.2.1 && Nat.beq (cm_code c a.toInt.toNat) 1)) (cm_nx (Nat.add pc 1) lv t (cm_u2 w k a.toInt.toNat x))
    | none => none)
  | _ => none
/-- the kind of the array on the stack -/
noncomputable def cm_kn (st : List cm_V) (o : Nat) : Nat := match ia_at st o with
  | some (.inr (.inr (some k))) => (match cm_sh k with
    | some c => c.1
    | none => 99)
  | _ => 99
noncomputable def cm_rcv (y2 : Nat) (as : List cm_V) : Bool := match as with
  | .inr (.inr (some k)) :: _ => (match cm_sh k with
    | some c => Nat.beq c.1 (ia_cls y2) && Nat.blt c.1 13
    | none => false)
  | _ => false
/-- a call of a method -/
noncomputable def cm_cal (y kd i : Nat) (st : List cm_V) : Option (Nat × List cm_V × List cm_V) := match ia_pl (ia_cls y) i with
  | some (1, y2, md, _, _) => ia_if (Nat.ble (ia_na y2) st.length && (Nat.beq kd md && (Nat.ble (ia_sz (cm_es (st.drop (ia_na y2)))) 8 && ((Nat.beq md 1 || cm_rcv y2 (st.take (ia_na y2)).reverse) && (Nat.beq (ia_mc y2) 0 && Nat.beq (ia_ms y2) 0))))) (some (y2, (st.take (ia_na y2)).reverse, st.drop (ia_na y2)))
  | _ => none
/-- arraycopy, min, max -/
noncomputable def cm_inv (y i : Nat) (pc : Nat) (lv : cm_L) (st : List cm_V) (w : cm_W) : Option cm_A := match ia_pl (ia_cls y) i with
  | some (3, _, _, _, _) => (match st with
    | .inl k :: .inl dp :: .inr (.inr (some d)) :: .inl sp :: .inr (.inr (some s)) :: t => (match cm_sh s with
      | some cs => (match cm_sh d with
        | some cd => ia_if (Nat.ble (ia_sz (cm_es t)) 8 && (decide (sp = 0) && (decide (dp = 0) && (decide (k = Int32.ofNat cs.2.1) && (Nat.blt cs.2.1 2147483648 && (Nat.beq cs.2.1 cd.2.1 && (Nat.beq cs.1 cd.1 && ((Nat.beq cs.1 50 || Nat.beq cs.1 51) && (cs.2.2.isEmpty && cd.2.2.isEmpty))))))))) (cm_nx (Nat.add pc 3) lv t (cm_cp w d s (16 * ((cs.2.1 + 15) / 16))))
        | none => none)
      | none => none)
    | _ => none)
  | some (7, _, _, _, _) => (match st with
    | .inl b :: .inl a :: t => ia_if (Nat.ble (ia_sz (cm_es t)) 8) (cm_nx (Nat.add pc 3) lv (.inl (if b < a then b else a) :: t) w)
    | _ => none)
  | some (17, _, _, _, _) => (match st with
    | .inl b :: .inl a :: t => ia_if (Nat.ble (ia_sz (cm_es t)) 8) (cm_nx (Nat.add pc 3) lv (.inl (if a < b then b else a) :: t) w)
    | _ => none)
  | _ => none
noncomputable def cm_tsw (d lo hi : Int) (os : Array Int) (pc : Nat) (lv : cm_L) (st : List cm_V) (w : cm_W) : Option cm_A := match st with
  | .inl a :: t => (match decide (a.toInt < lo) || decide (hi < a.toInt) with
    | true => cm_jmp d pc lv t w
    | false => (match ia_at os.toList (a.toInt - lo).toNat with
      | some o => cm_jmp o pc lv t w
      | none => none))
  | _ => none
noncomputable def cm_lks (d : Int) (ps : Array (Int × Int)) (pc : Nat) (lv : cm_L) (st : List cm_V) (w : cm_W) : Option cm_A := match st with
  | .inl a :: t => ia_if (ia_srt ps.toList) (cm_jmp (Op.lookupswitch.offset ps.toList d a.toInt) pc lv t w)
  | _ => none
noncomputable def cm_do (y pc : Nat) (ins : Instr) (len : Nat) (lv : cm_L) (st : List cm_V) (w : cm_W) : Option cm_A := match ins with
  | .iconst k => ia_if (Nat.beq len 1) (cm_nx (Nat.add pc 1) lv (.inl (Int32.ofInt k) :: st) w)
  | .bipush k => ia_if (Nat.beq len 2) (cm_nx (Nat.add pc 2) lv (.inl (Int8.ofInt k).toInt32 :: st) w)
  | .sipush k => ia_if (Nat.beq len 3) (cm_nx (Nat.add pc 3) lv (.inl (Int16.ofInt k).toInt32 :: st) w)
  | .lconst k => ia_if (Nat.beq len 1) (cm_nx (Nat.add pc 1) lv (.inr (.inl (Int64.ofNat k.val)) :: st) w)
  | .iload_n k => ia_if (Nat.beq len 1) (cm_ld 0 k.val 1 pc lv st w)
  | .iload k => ia_if (Nat.beq len 2) (cm_ld 0 k 2 pc lv st w)
  | .lload_n k => ia_if (Nat.beq len 1) (cm_ld 1 k.val 1 pc lv st w)
  | .aload_n k => ia_if (Nat.beq len 1) (cm_ld 2 k.val 1 pc lv st w)
  | .aload k => ia_if (Nat.beq len 2) (cm_ld 2 k 2 pc lv st w)
  | .istore_n k => ia_if (Nat.beq len 1 && Nat.blt k.val (ia_maxL y)) (cm_sto 0 k.val 1 pc lv st w)
  | .istore k => ia_if (Nat.beq len 2 && Nat.blt k (ia_maxL y)) (cm_sto 0 k 2 pc lv st w)
  | .astore_n k => ia_if (Nat.beq len 1 && Nat.blt k.val (ia_maxL y)) (cm_sto 2 k.val 1 pc lv st w)
  | .astore k => ia_if (Nat.beq len 2 && Nat.blt k (ia_maxL y)) (cm_sto 2 k 2 pc lv st w)
  | .lstore_n k => ia_if (Nat.beq len 1 && Nat.blt (Nat.succ k.val) (ia_maxL y)) (cm_stl k.val 1 pc lv st w)
  | .iinc k d => ia_if (Nat.beq len 3 && Nat.blt k (ia_maxL y)) (match ia_at lv k with
    | some (some (.inl a)) => ia_if (ia_nl (cm_el lv) k) (cm_nx (Nat.add pc 3) (lv.set k (some (.inl (a + Int32.ofInt d)))) st w)
    | _ => none)
  | .iadd => ia_if (Nat.beq len 1) (cm_bin (fun x y => x + y) pc lv st w)
  | .isub => ia_if (Nat.beq len 1) (cm_bin (fun x y => x - y) pc lv st w)
  | .imul => ia_if (Nat.beq len 1) (cm_bin (fun x y => x * y) pc lv st w)
  | .iand => ia_if (Nat.beq len 1) (cm_bin (fun x y => x &&& y) pc lv st w)
  | .ior => ia_if (Nat.beq len 1) (cm_bin (fun x y => x ||| y) pc lv st w)
  | .ixor => ia_if (Nat.beq len 1) (cm_bin (fun x y => x ^^^ y) pc lv st w)
  | .ishl => ia_if (Nat.beq len 1) (cm_bin (fun x y => x <<< (y &&& 31)) pc lv st w)
  | .ishr => ia_if (Nat.beq len 1) (cm_bin (fun x y => x >>> (y &&& 31)) pc lv st w)
  | .iushr => ia_if (Nat.beq len 1) (cm_bin (fun x y => (x.toUInt32 >>> (y.toUInt32 &&& Int32.toUInt32 31)).toInt32) pc lv st w)
  | .idiv => ia_if (Nat.beq len 1) (match st with
    | .inl b :: _ => ia_if (!(decide (b = 0))) (cm_bin (fun x y => x / y) pc lv st w)
    | _ => none)
  | .irem => ia_if (Nat.beq len 1) (match st with
    | .inl b :: _ => ia_if (!(decide (b = 0))) (cm_bin (fun x y => x - x / y * y) pc lv st w)
    | _ => none)
  | .i2b => ia_if (Nat.beq len 1) (match st with
    | .inl a :: t => cm_nx (Nat.add pc 1) lv (.inl a.toInt8.toInt32 :: t) w
    | _ => none)
  | .i2l => ia_if (Nat.beq len 1) (match st with
    | .inl a :: t => cm_nx (Nat.add pc 1) lv (.inr (.inl a.toInt64) :: t) w
    | _ => none)
  | .ladd => ia_if (Nat.beq len 1) (match st with
    | .inr (.inl b) :: .inr (.inl a) :: t => cm_nx (Nat.add pc 1) lv (.inr (.inl (a + b)) :: t) w
    | _ => none)
  | .lmul => ia_if (Nat.beq len 1) (match st with
    | .inr (.inl b) :: .inr (.inl a) :: t => cm_nx (Nat.add pc 1) lv (.inr (.inl (a * b)) :: t) w
    | _ => none)
  | .lor => ia_if (Nat.beq len 1) (match st with
    | .inr (.inl b) :: .inr (.inl a) :: t => cm_nx (Nat.add pc 1) lv (.inr (.inl (a ||| b)) :: t) w
    | _ => none)
  | .lshl => ia_if (Nat.beq len 1) (match st with
    | .inl b :: .inr (.inl a) :: t => cm_nx (Nat.add pc 1) lv (.inr (.inl (a <<< (b.toInt64 &&& 63))) :: t) w
    | _ => none)
  | .lcmp => ia_if (Nat.beq len 1) (match st with
    | .inr (.inl b) :: .inr (.inl a) :: t => cm_nx (Nat.add pc 1) lv (.inl (lg_cmp a b) :: t) w
    | _ => none)
  | .dup => ia_if (Nat.beq len 1) (match st with
    | a :: t => ia_if (Nat.beq (ia_cat (cm_e a)) 1) (cm_nx (Nat.add pc 1) lv (a :: a :: t) w)
    | _ => none)
  | .dup2 => ia_if (Nat.beq len 1) (match st with
    | a :: b :: t => ia_if (Nat.beq (ia_cat (cm_e a)) 1 && Nat.beq (ia_cat (cm_e b)) 1) (cm_nx (Nat.add pc 1) lv (a :: b :: a :: b :: t) w)
    | _ => none)
  | .pop => ia_if (Nat.beq len 1) (match st with
    | a :: t => ia_if (Nat.beq (ia_cat (cm_e a)) 1) (cm_nx (Nat.add pc 1) lv t w)
    | _ => none)
  | .ifCond c o => ia_if (Nat.beq len 3) (match st with
    | .inl a :: t => cm_br (cm_cmp c a 0) o pc lv t w
    | _ => none)
  | .if_icmp c o => ia_if (Nat.beq len 3) (match st with
    | .inl b :: .inl a :: t => cm_br (cm_cmp c a b) o pc lv t w
    | _ => none)
  | .goto o => ia_if (Nat.beq len 3) (cm_jmp o pc lv st w)
  | .tableswitch d lo hi os => cm_tsw d lo hi os pc lv st w
  | .lookupswitch d ps => cm_lks d ps pc lv st w
  | .getfield i => ia_if (Nat.beq len 3) (match st with
    | .inr (.inr (some k)) :: t => (match ia_pl (ia_cls y) i with
      | some (0, ci, sl, _, _) => (match cm_sh k with
        | some c => ia_if (Nat.beq c.1 ci && Nat.blt sl c.2.1) (cm_nx (Nat.add pc 3) lv (cm_v w k sl (cm_code c sl) :: t) w)
        | none => none)
      | _ => none)
    | _ => none)
  | .putfield i => ia_if (Nat.beq len 3) (match st with
    | v :: .inr (.inr (some k)) :: t => (match ia_pl (ia_cls y) i with
      | some (0, ci, sl, kd, _) => (match cm_sh k with
        | some c => ia_if (Nat.beq c.1 ci && (ia_fit y ci kd (cm_e v) && Nat.blt sl c.2.1)) (match cm_put w k sl (cm_code c sl) v with
          | some w' => cm_nx (Nat.add pc 3) lv t w'
          | none => none)
        | none => none)
      | _ => none)
    | _ => none)
  | .iaload => ia_if (Nat.beq len 1) (cm_al 50 pc lv st w)
  | .laload => ia_if (Nat.beq len 1) (cm_al 51 pc lv st w)
  | .baload => ia_if (Nat.beq len 1) (match Nat.beq (cm_kn st 1) 52 with
    | true => cm_al 52 pc lv st w
    | false => cm_al 53 pc lv st w)
  | .aaload => ia_if (Nat.beq len 1) (match Nat.beq (cm_kn st 1) 54 with
    | true => cm_al 54 pc lv st w
    | false => cm_al 55 pc lv st w)
  | .iastore => ia_if (Nat.beq len 1) (cm_as 50 (fun x => x) pc lv st w)
  | .lastore => ia_if (Nat.beq len 1) (cm_asl pc lv st w)
  | .bastore => ia_if (Nat.beq len 1) (match Nat.beq (cm_kn st 2) 52 with
    | true => cm_as 52 (vp_nar .byte) pc lv st w
    | false => cm_as 53 (vp_nar .boolean) pc lv st w)
  | .arraylength => ia_if (Nat.beq len 1) (match st with
    | .inr (.inr (some k)) :: t => (match cm_sh k with
      | some c => ia_if (Nat.ble 50 c.1 && (Nat.ble c.1 55 && Nat.blt c.2.1 2147483648)) (cm_nx (Nat.add pc 1) lv (.inl (Int32.ofNat c.2.1) :: t) w)
      | none => none)
    | _ => none)
  | .ldc i => ia_if (Nat.beq len 2) (match ia_pl (ia_cls y) i with
    | some (8, v, _, _, _) => cm_nx (Nat.add pc 2) lv (.inl (ia_D v) :: st) w
    | _ => none)
  | .ldc_w i => ia_if (Nat.beq len 3) (match ia_pl (ia_cls y) i with
    | some (8, v, _, _, _) => cm_nx (Nat.add pc 3) lv (.inl (ia_D v) :: st) w
    | _ => none)
  | .ldc2_w i => ia_if (Nat.beq len 3) (match ia_pl (ia_cls y) i with
    | some (9, v, _, _, _) => ia_if (Nat.blt v 18446744073709551616) (cm_nx (Nat.add pc 3) lv (.inr (.inl (Int64.ofNat v)) :: st) w)
    | _ => none)
  | .invokestatic i => ia_if (Nat.beq len 3) (cm_inv y i pc lv st w)
  | _ => none
noncomputable def cm_call (y : Nat) (ins : Instr) (len : Nat) (st : List cm_V) : Option (Nat × List cm_V × List cm_V) := match ins with
  | .invokevirtual i => ia_if (Nat.beq len 3) (cm_cal y 0 i st)
  | .invokestatic i => ia_if (Nat.beq len 3) (cm_cal y 1 i st)
  | _ => none
noncomputable def cm_ret (y : Nat) (ins : Instr) (len : Nat) (st : List cm_V) : Option (Option cm_V) := match ins with
  | .ireturn => ia_if (Nat.beq len 1) (match st with
    | [.inl a] => (match ia_ret y with
      | some ty => ia_if (ia_nar ty (ia_E a)) (some (some (.inl a)))
      | none => none)
    | _ => none)
  | .lreturn => ia_if (Nat.beq len 1) (match st with
    | [.inr (.inl a)] => (match ia_ret y with
      | some .long => some (some (.inr (.inl a)))
      | _ => none)
    | _ => none)
  | .return_ => ia_if (Nat.beq len 1) (match st with
    | [] => (match ia_ret y with
      | none => some none
      | some _ => none)
    | _ => none)
  | _ => none
/-! ### runs -/
noncomputable def cm_ent (y : Nat) (as : List cm_V) : cm_L := (as.flatMap (fun a => match a with
  | .inr (.inl _) => [some a, none]
  | _ => [some a])) ++ List.replicate (ia_maxL y - ia_sz (cm_es as)) none
def cm_back (r : Option cm_V) (t : List cm_V) : List cm_V := match r with
  | some v => v :: t
  | none => t
/-- one instruction of a body: it goes on, it calls, it ends -/
def cm_R (C : Nat → List cm_V → cm_W → cm_O → Prop) (y : Nat) : Nat → Nat → cm_L → List cm_V → cm_W → cm_O → Prop
  | 0, _, _, _, _, _ => False
  | F + 1, pc, lv, st, w, o => ∃ ins len, decode (ia_code y) pc = .ok (ins, len) ∧ ((∃ q : cm_A, cm_do y pc ins len lv st w = some q ∧ cm_R C y F q.1 q.2.1 q.2.2.1 q.2.2.2 o) ∨ (∃ (y2 : Nat) (as t : List cm_V) (r : Option cm_V) (w' : cm_W), cm_call y ins len st = some (y2, as, t) ∧ C y2 as w (r, w') ∧ cm_R C y F (pc + 3) lv (cm_back r t) w' o) ∨ (∃ r : Option cm_V, cm_ret y ins len st = some r ∧ o = (r, w)))
noncomputable def cm_pr (l : List Int) (k : Int32) : Int32 := if 0 ≤ k.toInt ∧ k.toInt < l.length then Int32.ofInt (l.getD k.toInt.toNat 0) else 0
/-- what two methods answer that read a static array -/
def cm_P (y : Nat) (as : List cm_V) (w : cm_W) (o : cm_O) : Prop := (y = 176 ∧ ∃ k, as = [.inl k] ∧ o = (some (.inl (cm_pr ia_arA k)), w)) ∨ (y = 179 ∧ ∃ k, as = [.inl k] ∧ o = (some (.inl (cm_pr ia_arH k)), w))
/-- a call ends so, at this depth -/
def cm_C : Nat → Nat → List cm_V → cm_W → cm_O → Prop
  | 0, _, _, _, _ => False
  | d + 1, y, as, w, o => cm_P y as w o ∨ (ia_sz (cm_es as) ≤ ia_maxL y ∧ ∃ F, cm_R (cm_C d) y F 0 (cm_ent y as) [] w o)
