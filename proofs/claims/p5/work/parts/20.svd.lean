/-! ## a checker of bounds over the plain machine: its words -/
/-- an int: least, greatest, over the entry's rank (plus one), over the loop's rank (plus one), where it was read (2 j + 1 the local j, 2 q + 2 the slot q) -/
abbrev sv_I : Type := Nat × Nat × Nat × Nat × Nat
/-- an int, a long, a reference to a cell -/
abbrev sv_V : Type := sv_I ⊕ Option Nat
abbrev sv_L : Type := List (Option sv_V)
/-- what is known of a slot: slot, least, greatest, two ranks -/
abbrev sv_F : Type := List (Nat × Nat × Nat × Nat × Nat)
abbrev sv_GT : Type := List (List (List (Nat × Nat × Nat)))
abbrev sv_WR : Type := List (Nat × Nat × Nat)
abbrev sv_OUT : Type := Option sv_V × List sv_V × sv_F
/-- method, depth, rank slot, arguments, slots, writes, outcomes -/
abbrev sv_SM : Type := Nat × Nat × Nat × List sv_V × sv_F × sv_WR × List sv_OUT
abbrev sv_K : Type := Nat → sv_L → List sv_V → sv_F → Bool
/-- place, number, owner, rank, locals, stack, slots -/
abbrev sv_CS : Type := Nat × Nat × Nat × Nat × sv_L × List sv_V × sv_F
noncomputable def sv_incl (a b : sv_P) : Bool := Nat.ble b.1 a.1 && Nat.ble a.2 b.2
noncomputable def sv_mapK {α : Type} (f : α → (α → Bool) → Bool) (l : List α) (k : List α → Bool) : Bool := List.rec (motive := fun _ => (List α → Bool) → Bool) (fun k => k []) (fun a _ ih k => f a (fun a' => ih (fun t => k (a' :: t)))) l k
noncomputable def sv_allb {α : Type} (f : α → Bool) (l : List α) : Bool := List.rec (motive := fun _ => Bool) true (fun a _ ih => cond (f a) ih false) l
noncomputable def sv_anyb {α : Type} (f : α → Bool) (l : List α) : Bool := List.rec (motive := fun _ => Bool) false (fun a _ ih => cond (f a) true ih) l
/-! ### the bounds of the world -/
noncomputable def sv_rn (l : List (Nat × Nat × Nat)) (i : Nat) : sv_P := List.rec (motive := fun _ => sv_P) sv_top (fun r _ ih => cond (Nat.blt i r.1) r.2 ih) l
noncomputable def sv_hull (a b : sv_P) : sv_P := (cond (Nat.ble a.1 b.1) a.1 b.1, cond (Nat.ble a.2 b.2) b.2 a.2)
noncomputable def sv_hl (l : List (Nat × Nat × Nat)) (a b : Nat) : sv_P := List.rec (motive := fun _ => sv_P) sv_top (fun r _ ih => cond (Nat.blt b r.1) r.2 (cond (Nat.blt a r.1) (sv_hull r.2 ih) ih)) l
noncomputable def sv_gi (v : sv_P) (l : List (Nat × Nat × Nat)) (a b : Nat) : Bool := List.rec (motive := fun _ => Bool) true (fun r _ ih => cond (Nat.blt b r.1) (sv_incl v r.2) (cond (Nat.blt a r.1) (sv_incl v r.2 && ih) ih)) l
noncomputable def sv_gr (G : sv_GT) (k : Nat) : List (Nat × Nat × Nat) := (ia_get2 G k).getD []
noncomputable def sv_g (G : sv_GT) (k i : Nat) : sv_P := sv_rn (sv_gr G k) i
noncomputable def sv_q (k i : Nat) : Nat := Nat.add (Nat.mul k 16384) i
/-- is it told that this may be written -/
noncomputable def sv_wr (W : sv_WR) (k a b : Nat) : Bool := sv_anyb (fun r => Nat.beq r.1 k && (Nat.ble r.2.1 a && Nat.ble b r.2.2)) W
/-! ### slots that are told -/
noncomputable def sv_fq (fs : sv_F) (q : Nat) : Option sv_P := List.rec (motive := fun _ => Option sv_P) none (fun f _ ih => cond (Nat.beq f.1 q) (some (f.2.1, f.2.2.1)) ih) fs
noncomputable def sv_fv (fs : sv_F) (q : Nat) (d : sv_I) : sv_I := List.rec (motive := fun _ => sv_I) d (fun f _ ih => cond (Nat.beq f.1 q) (f.2.1, f.2.2.1, f.2.2.2.1, f.2.2.2.2, Nat.add (Nat.mul 2 q) 2) ih) fs
/-- an int in a slot -/
noncomputable def sv_rd (G : sv_GT) (fs : sv_F) (k i : Nat) : sv_I := ia_frc (sv_q k i) (fun q => sv_fv fs q ((sv_g G k i).1, (sv_g G k i).2, 0, 0, 0))
noncomputable def sv_frc (a : sv_I) (f : sv_I → Bool) : Bool := ia_frc a.1 (fun lo => ia_frc a.2.1 (fun hi => ia_frc a.2.2.1 (fun de => ia_frc a.2.2.2.1 (fun dh => ia_frc a.2.2.2.2 (fun og => f (lo, hi, de, dh, og))))))
noncomputable def sv_fw (q : Nat) (v : sv_I) (f : Nat × Nat × Nat × Nat × Nat) (k : Nat × Nat × Nat × Nat × Nat → Bool) : Bool := cond (Nat.beq f.1 q) (k (q, v.1, v.2.1, v.2.2.1, v.2.2.2.1)) (k f)
/-- one of the slots from q1 to q2 is written -/
noncomputable def sv_fj (q1 q2 : Nat) (v : sv_I) (f : Nat × Nat × Nat × Nat × Nat) (k : Nat × Nat × Nat × Nat × Nat → Bool) : Bool := cond (Nat.ble q1 f.1 && Nat.ble f.1 q2) (ia_frc (cond (Nat.ble f.2.1 v.1) f.2.1 v.1) (fun lo => ia_frc (cond (Nat.ble f.2.2.1 v.2.1) v.2.1 f.2.2.1) (fun hi => k (f.1, lo, hi, 0, 0)))) (k f)
/-- a slot is between these -/
noncomputable def sv_fm (q : Nat) (p : sv_P) (f : Nat × Nat × Nat × Nat × Nat) (k : Nat × Nat × Nat × Nat × Nat → Bool) : Bool := cond (Nat.beq f.1 q) (ia_frc (cond (Nat.ble f.2.1 p.1) p.1 f.2.1) (fun lo => ia_frc (cond (Nat.ble f.2.2.1 p.2) f.2.2.1 p.2) (fun hi => cond (Nat.ble lo hi) (k (q, lo, hi, f.2.2.2.1, f.2.2.2.2)) true))) (k f)
/-- origins forgotten -/
noncomputable def sv_c0 (v : sv_V) (k : sv_V → Bool) : Bool := match v with
  | .inl (lo, hi, de, dh, _) => k (.inl (lo, hi, de, dh, 0))
  | .inr o => k (.inr o)
noncomputable def sv_c1 (v : Option sv_V) (k : Option sv_V → Bool) : Bool := match v with
  | some (.inl (lo, hi, de, dh, _)) => k (some (.inl (lo, hi, de, dh, 0)))
  | some (.inr o) => k (some (.inr o))
  | none => k none
noncomputable def sv_cs (st : List sv_V) (k : List sv_V → Bool) : Bool := sv_mapK sv_c0 st k
noncomputable def sv_cl (lv : sv_L) (k : sv_L → Bool) : Bool := sv_mapK sv_c1 lv k
/-- into a local: only a slot's origin stays -/
noncomputable def sv_ev (v : sv_V) (k : sv_V → Bool) : Bool := match v with
  | .inl (lo, hi, de, dh, og) => cond (Nat.beq (Nat.mod og 2) 1) (k (.inl (lo, hi, de, dh, 0))) (k (.inl (lo, hi, de, dh, og)))
  | .inr o => k (.inr o)
/-- the origin of a number is between these -/
noncomputable def sv_rf (og : Nat) (p : sv_P) (lv : sv_L) (fs : sv_F) (k : sv_L → sv_F → Bool) : Bool := cond (Nat.beq og 0) (k lv fs) (cond (Nat.beq (Nat.mod og 2) 1) (match ia_at lv (Nat.div og 2) with
  | some (some (.inl (lo, hi, de, dh, o2))) => ia_frc (cond (Nat.ble lo p.1) p.1 lo) (fun lo => ia_frc (cond (Nat.ble hi p.2) hi p.2) (fun hi => cond (Nat.ble lo hi) (ia_setK lv (Nat.div og 2) (some (.inl (lo, hi, de, dh, o2))) (fun lv => cond (Nat.beq o2 0) (k lv fs) (ia_frc (Nat.sub (Nat.div o2 2) 1) (fun q => sv_mapK (sv_fm q p) fs (fun fs => k lv fs))))) true))
  | _ => k lv fs) (ia_frc (Nat.sub (Nat.div og 2) 1) (fun q => sv_mapK (sv_fm q p) fs (fun fs => k lv fs))))
/-! ### instructions -/
noncomputable def sv_kd (kd : Nat) (v : sv_V) : Bool := match v with
  | .inl _ => Nat.beq kd 0
  | .inr none => Nat.beq kd 1
  | .inr (some _) => Nat.beq kd 2
noncomputable def sv_sz (st : List sv_V) : Nat := List.rec (motive := fun _ => Nat) 0 (fun v _ ih => Nat.add (match v with
  | .inr none => 2
  | _ => 1) ih) st
noncomputable def sv_nl (lv : sv_L) (i : Nat) : Bool := Nat.rec (motive := fun _ => Bool) true (fun m _ => match ia_at lv m with
  | some (some (.inr none)) => false
  | _ => true) i
noncomputable def sv_org (v : sv_V) (i : Nat) : sv_V := match v with
  | .inl (lo, hi, de, dh, _) => .inl (lo, hi, de, dh, Nat.add (Nat.mul 2 i) 1)
  | .inr o => .inr o
noncomputable def sv_nx (k : sv_K) (pc : Nat) (lv : sv_L) (st : List sv_V) (fs : sv_F) : Bool := ia_frc pc (fun pc => k pc lv st fs)
noncomputable def sv_pu (k : sv_K) (c pc : Nat) (lv : sv_L) (st : List sv_V) (fs : sv_F) : Bool := ia_frc c (fun c => sv_nx k pc lv (.inl (c, c, 0, 0, 0) :: st) fs)
noncomputable def sv_ld (kd i len : Nat) (k : sv_K) (pc : Nat) (lv : sv_L) (st : List sv_V) (fs : sv_F) : Bool := match ia_at lv i with
  | some (some v) => sv_kd kd v && sv_nx k (Nat.add pc len) lv (sv_org v i :: st) fs
  | _ => false
noncomputable def sv_sto (na kd i len : Nat) (k : sv_K) (pc : Nat) (lv : sv_L) (st : List sv_V) (fs : sv_F) : Bool := match st with
  | v :: t => (sv_kd kd v && (sv_nl lv i && Nat.ble na i)) && sv_ev v (fun v => sv_cs t (fun t => ia_setK lv i (some v) (fun lv => sv_nx k (Nat.add pc len) lv t fs)))
  | [] => false
noncomputable def sv_stl (na i len : Nat) (k : sv_K) (pc : Nat) (lv : sv_L) (st : List sv_V) (fs : sv_F) : Bool := match st with
  | .inr none :: t => (sv_nl lv i && Nat.ble na i) && sv_cs t (fun t => ia_setK lv i (some (.inr none)) (fun lv => ia_setK lv (Nat.succ i) none (fun lv => sv_nx k (Nat.add pc len) lv t fs)))
  | _ => false
noncomputable def sv_bin (f : sv_P → sv_P → sv_P) (k : sv_K) (pc : Nat) (lv : sv_L) (st : List sv_V) (fs : sv_F) : Bool := match st with
  | .inl b :: .inl a :: t => ia_frc (f (a.1, a.2.1) (b.1, b.2.1)).1 (fun lo => ia_frc (f (a.1, a.2.1) (b.1, b.2.1)).2 (fun hi => sv_nx k (Nat.add pc 1) lv (.inl (lo, hi, 0, 0, 0) :: t) fs))
  | _ => false
noncomputable def sv_dd (d c : Nat) : Nat := cond (Nat.beq d 0) 0 (Nat.sub (Nat.add d c) 2147483648)
/-- a sum keeps what its first number is over a rank -/
noncomputable def sv_sum (a b : sv_I) : sv_I := cond (Nat.ble 2147483648 b.1 && Nat.blt (Nat.add a.2.1 b.2.1) 6442450944) (Nat.sub (Nat.add a.1 b.1) 2147483648, Nat.sub (Nat.add a.2.1 b.2.1) 2147483648, sv_dd a.2.2.1 b.1, sv_dd a.2.2.2.1 b.1, 0) ((sv_add (a.1, a.2.1) (b.1, b.2.1)).1, (sv_add (a.1, a.2.1) (b.1, b.2.1)).2, 0, 0, 0)
noncomputable def sv_nz (b : sv_I) : Bool := Nat.ble 2147483649 b.1 || Nat.blt b.2.1 2147483648
noncomputable def sv_jmp (o : Int) (k : sv_K) (pc : Nat) (lv : sv_L) (st : List sv_V) (fs : sv_F) : Bool := match Int.add (Int.ofNat pc) o with
  | .ofNat t => sv_nx k t lv st fs
  | .negSucc _ => false
/-- the compare came out r -/
noncomputable def sv_b1 (c : ClassFile.Cond) (r : Bool) (a b : sv_I) (pc : Nat) (k : sv_K) (lv : sv_L) (st : List sv_V) (fs : sv_F) : Bool := match sv_ref c r (a.1, a.2.1) (b.1, b.2.1) with
  | some q => sv_rf a.2.2.2.2 q.1 lv fs (fun lv fs => sv_rf b.2.2.2.2 q.2 lv fs (fun lv fs => sv_nx k pc lv st fs))
  | none => true
noncomputable def sv_fk (c : ClassFile.Cond) (r : Bool) : Bool := match c, r with
  | .eq, false => true
  | .ne, true => true
  | _, _ => false
/-- the same; where a slot 2^32 is told, a number that is not the other is below it or above it -/
noncomputable def sv_b2 (c : ClassFile.Cond) (r : Bool) (a b : sv_I) (pc : Nat) (k : sv_K) (lv : sv_L) (st : List sv_V) (fs : sv_F) : Bool := cond (sv_fk c r && (Nat.beq b.1 b.2.1 && (Nat.blt a.1 b.1 && (Nat.blt b.1 a.2.1 && (sv_fq fs 4294967296).isSome)))) (cond (sv_b1 .lt true a b pc k lv st fs) (sv_b1 .gt true a b pc k lv st fs) false) (sv_b1 c r a b pc k lv st fs)
noncomputable def sv_br (c : ClassFile.Cond) (o : Int) (a b : sv_I) (k : sv_K) (pc : Nat) (lv : sv_L) (st : List sv_V) (fs : sv_F) : Bool := match Int.add (Int.ofNat pc) o with
  | .ofNat t => cond (sv_b2 c true a b t k lv st fs) (sv_b2 c false a b (Nat.add pc 3) k lv st fs) false
  | .negSucc _ => false
/-- a switch: the numbers from v on, for each its way -/
noncomputable def sv_tsl (a : sv_I) (pc : Nat) (k : sv_K) (lv : sv_L) (st : List sv_V) (fs : sv_F) (os : List Int) (v : Int) : Bool := List.rec (motive := fun _ => Int → Bool) (fun _ => true) (fun o _ ih v => cond (decide (Int.ofNat a.1 - 2147483648 ≤ v) && decide (v ≤ Int.ofNat a.2.1 - 2147483648)) (cond (sv_rf a.2.2.2.2 ((v + 2147483648).toNat, (v + 2147483648).toNat) lv fs (fun lv fs => sv_jmp o k pc lv st fs)) (ih (v + 1)) false) (ih (v + 1))) os v
noncomputable def sv_tsw (d lo hi : Int) (os : List Int) (k : sv_K) (pc : Nat) (lv : sv_L) (st : List sv_V) (fs : sv_F) : Bool := match st with
  | .inl a :: t => decide (hi - lo < Int.ofNat os.length) && (cond (decide (lo ≤ Int.ofNat a.1 - 2147483648) && decide (Int.ofNat a.2.1 - 2147483648 ≤ hi)) true (sv_jmp d k pc lv t fs) && sv_tsl a pc k lv t fs os lo)
  | _ => false
noncomputable def sv_lkl (a : sv_I) (pc : Nat) (k : sv_K) (lv : sv_L) (st : List sv_V) (fs : sv_F) (ps : List (Int × Int)) : Bool := sv_allb (fun p => cond (decide (Int.ofNat a.1 - 2147483648 ≤ p.1) && decide (p.1 ≤ Int.ofNat a.2.1 - 2147483648)) (sv_rf a.2.2.2.2 ((p.1 + 2147483648).toNat, (p.1 + 2147483648).toNat) lv fs (fun lv fs => sv_jmp p.2 k pc lv st fs)) true) ps
noncomputable def sv_lks (d : Int) (ps : List (Int × Int)) (k : sv_K) (pc : Nat) (lv : sv_L) (st : List sv_V) (fs : sv_F) : Bool := match st with
  | .inl a :: t => ia_srt ps && (sv_jmp d k pc lv t fs && sv_lkl a pc k lv t fs ps)
  | _ => false
/-- an int of a slot, or a reference, on the stack -/
noncomputable def sv_get (G : sv_GT) (n i z : Nat) (k : sv_K) (pc : Nat) (lv : sv_L) (st : List sv_V) (fs : sv_F) : Bool := match z with
  | 0 => sv_frc (sv_rd G fs n i) (fun v => sv_nx k pc lv (.inl v :: st) fs)
  | 1 => sv_nx k pc lv (.inr none :: st) fs
  | 2 => false
  | z + 3 => sv_nx k pc lv (.inr (some z) :: st) fs
/-- an int into the slots from i to j of a cell (one of them) -/
noncomputable def sv_put (G : sv_GT) (W : sv_WR) (n i j : Nat) (v : sv_I) (k : sv_K) (pc : Nat) (lv : sv_L) (st : List sv_V) (fs : sv_F) : Bool := (sv_gi (v.1, v.2.1) (sv_gr G n) i j && sv_wr W n i j) && cond (Nat.beq i j) (ia_frc (sv_q n i) (fun q => sv_mapK (sv_fw q v) fs (fun fs => sv_cl lv (fun lv => sv_cs st (fun st => sv_nx k pc lv st fs))))) (ia_frc (sv_q n i) (fun q1 => ia_frc (sv_q n j) (fun q2 => sv_mapK (sv_fj q1 q2 v) fs (fun fs => sv_cl lv (fun lv => sv_cs st (fun st => sv_nx k pc lv st fs))))))
/-- the place in an array is in it -/
noncomputable def sv_ix (n : Nat) (tg : Nat) (a : sv_I) (f : Nat × Nat × List Nat → Nat → Nat → Bool) : Bool := match cm_sh n with
  | some c => (Nat.beq c.1 tg && (Nat.ble 2147483648 a.1 && (Nat.ble a.1 a.2.1 && Nat.blt (Nat.sub a.2.1 2147483648) c.2.1))) && ia_frc (Nat.sub a.1 2147483648) (fun i => ia_frc (Nat.sub a.2.1 2147483648) (fun j => f c i j))
  | none => false
noncomputable def sv_al (G : sv_GT) (tg : Nat) (k : sv_K) (pc : Nat) (lv : sv_L) (st : List sv_V) (fs : sv_F) : Bool := match st with
  | .inl a :: .inr (some n) :: t => sv_ix n tg a (fun c i j => c.2.2.isEmpty && cond (Nat.beq i j) (sv_frc (sv_rd G fs n i) (fun v => sv_nx k (Nat.add pc 1) lv (.inl v :: t) fs)) (ia_frc (sv_hl (sv_gr G n) i j).1 (fun lo => ia_frc (sv_hl (sv_gr G n) i j).2 (fun hi => sv_nx k (Nat.add pc 1) lv (.inl (lo, hi, 0, 0, 0) :: t) fs))))
  | _ => false
noncomputable def sv_ald (k : sv_K) (pc : Nat) (lv : sv_L) (st : List sv_V) (fs : sv_F) : Bool := match st with
  | .inl a :: .inr (some n) :: t => sv_ix n 51 a (fun c i j => c.2.2.isEmpty && sv_nx k (Nat.add pc 1) lv (.inr none :: t) fs)
  | _ => false
noncomputable def sv_ala (tg : Nat) (k : sv_K) (pc : Nat) (lv : sv_L) (st : List sv_V) (fs : sv_F) : Bool := match st with
  | .inl a :: .inr (some n) :: t => sv_ix n tg a (fun c i j => Nat.ble c.2.1 c.2.2.length && sv_allb (fun z => Nat.ble 3 z && sv_nx k (Nat.add pc 1) lv (.inr (some (Nat.sub z 3)) :: t) fs) c.2.2)
  | _ => false
noncomputable def sv_as (G : sv_GT) (W : sv_WR) (tg : Nat) (g : sv_I → sv_I) (k : sv_K) (pc : Nat) (lv : sv_L) (st : List sv_V) (fs : sv_F) : Bool := match st with
  | .inl v :: .inl a :: .inr (some n) :: t => sv_ix n tg a (fun c i j => c.2.2.isEmpty && sv_frc (g v) (fun v => sv_put G W n i j v k (Nat.add pc 1) lv t fs))
  | _ => false
noncomputable def sv_asl (W : sv_WR) (k : sv_K) (pc : Nat) (lv : sv_L) (st : List sv_V) (fs : sv_F) : Bool := match st with
  | .inr none :: .inl a :: .inr (some n) :: t => sv_ix n 51 a (fun c i j => (c.2.2.isEmpty && sv_wr W n i j) && sv_nx k (Nat.add pc 1) lv t fs)
  | _ => false
noncomputable def sv_kn (st : List sv_V) (o : Nat) : Nat := match ia_at st o with
  | some (.inr (some k)) => (match cm_sh k with
    | some c => c.1
    | none => 99)
  | _ => 99
/-! ### a call -/
noncomputable def sv_s1 (H : Bool) (a b : sv_I) : Bool := (Nat.ble b.1 a.1 && Nat.ble a.2.1 b.2.1) && (Nat.ble b.2.2.1 a.2.2.1 && (cond H (Nat.ble b.2.2.2.1 a.2.2.2.1) true))
noncomputable def sv_s2 (H : Bool) (a b : sv_V) : Bool := match a, b with
  | .inl a, .inl b => sv_s1 H a b
  | .inr none, .inr none => true
  | .inr (some k), .inr (some j) => Nat.beq k j
  | _, _ => false
noncomputable def sv_s3 (H : Bool) (a b : Option sv_V) : Bool := match a, b with
  | some a, some b => sv_s2 H a b
  | some (.inr none), none => false
  | _, none => true
  | none, some _ => false
noncomputable def sv_all {α β : Type} (f : α → β → Bool) (l : List α) (m : List β) : Bool := List.rec (motive := fun _ => List β → Bool) (fun m => match m with
  | [] => true
  | _ => false) (fun a _ ih m => match m with
  | [] => false
  | b :: t => cond (f a b) (ih t) false) l m
/-- what is told of a slot there is so here -/
noncomputable def sv_sf (G : sv_GT) (H : Bool) (fs : sv_F) (f : Nat × Nat × Nat × Nat × Nat) : Bool := sv_s1 H (sv_fv fs f.1 ((sv_g G (Nat.div f.1 16384) (Nat.mod f.1 16384)).1, (sv_g G (Nat.div f.1 16384) (Nat.mod f.1 16384)).2, 0, 0, 0)) (f.2.1, f.2.2.1, f.2.2.2.1, f.2.2.2.2, 0)
/-- what a callee asks of a slot -/
noncomputable def sv_sp (G : sv_GT) (rk : Nat) (fs : sv_F) (f : Nat × Nat × Nat × Nat × Nat) : Bool := sv_sf G true fs (f.1, f.2.1, f.2.2.1, 0, 0) && (Nat.beq f.2.2.2.2 0 && (Nat.beq f.2.2.2.1 0 || (Nat.beq f.1 rk && Nat.ble f.2.2.2.1 1)))
noncomputable def sv_inw (W : sv_WR) (q : Nat) : Bool := sv_anyb (fun r => Nat.beq r.1 (Nat.div q 16384) && (Nat.ble r.2.1 (Nat.mod q 16384) && Nat.ble (Nat.mod q 16384) r.2.2)) W
/-- over a rank, behind a call -/
noncomputable def sv_dc (d e : Nat) : Nat := cond (Nat.beq d 0) 0 (cond (Nat.beq e 0) 0 (Nat.sub (Nat.add d e) 1))
/-- a slot behind a call: r the rank's slot ahead of it, o what the outcome tells -/
noncomputable def sv_fc (G : sv_GT) (W : sv_WR) (r : sv_I) (o : sv_F) (f : Nat × Nat × Nat × Nat × Nat) (k : Nat × Nat × Nat × Nat × Nat → Bool) : Bool := cond (sv_inw W f.1) (sv_frc (sv_fv o f.1 ((sv_g G (Nat.div f.1 16384) (Nat.mod f.1 16384)).1, (sv_g G (Nat.div f.1 16384) (Nat.mod f.1 16384)).2, 0, 0, 0)) (fun v => ia_frc (sv_dc r.2.2.1 v.2.2.1) (fun de => ia_frc (sv_dc r.2.2.2.1 v.2.2.1) (fun dh => k (f.1, v.1, v.2.1, de, dh))))) (match sv_fq o f.1 with
  | some p => sv_fm f.1 p f k
  | none => k f)
noncomputable def sv_ars (as ar : List sv_V) (lv : sv_L) (fs : sv_F) (k : sv_L → sv_F → Bool) : Bool := List.rec (motive := fun _ => List sv_V → sv_L → sv_F → Bool) (fun _ lv fs => k lv fs) (fun b _ ih as lv fs => match as with
  | [] => false
  | .inl a :: t => (match b with
    | .inl b => cond (Nat.beq a.2.2.2.2 0) (ih t lv fs) (sv_rf a.2.2.2.2 (b.1, b.2.1) lv fs (fun lv fs => ih t lv fs))
    | .inr _ => ih t lv fs)
  | .inr _ :: t => ih t lv fs) ar as lv fs
noncomputable def sv_back (r : Option sv_V) (t : List sv_V) : List sv_V := match r with
  | some (.inl a) => .inl (a.1, a.2.1, 0, 0, 0) :: t
  | some (.inr o) => .inr o :: t
  | none => t
/-- can the arguments be so -/
noncomputable def sv_can (as ar : List sv_V) : Bool := List.rec (motive := fun _ => List sv_V → Bool) (fun _ => true) (fun b _ ih as => match as with
  | [] => true
  | .inl a :: t => (match b with
    | .inl b => cond (Nat.ble a.1 b.2.1 && Nat.ble b.1 a.2.1) (ih t) false
    | .inr _ => ih t)
  | .inr _ :: t => ih t) ar as
noncomputable def sv_o1 (G : sv_GT) (s : sv_SM) (as t : List sv_V) (r : sv_I) (k : sv_K) (pc : Nat) (lv : sv_L) (fs : sv_F) (o : sv_OUT) : Bool := cond (sv_can as o.2.1) (sv_ars as o.2.1 lv fs (fun lv fs => sv_mapK (sv_fc G s.2.2.2.2.2.1 r o.2.2) fs (fun fs => sv_cl lv (fun lv => sv_cs t (fun t => sv_nx k (Nat.add pc 3) lv (sv_back o.1 t) fs))))) true
noncomputable def sv_use (G : sv_GT) (W : sv_WR) (dep : Nat) (s : sv_SM) (as t : List sv_V) (k : sv_K) (pc : Nat) (lv : sv_L) (fs : sv_F) : Bool := (Nat.blt s.2.1 dep && sv_allb (fun r => sv_wr W r.1 r.2.1 r.2.2) s.2.2.2.2.2.1) && sv_frc (sv_fv fs s.2.2.1 (0, 4294967295, 0, 0, 0)) (fun r => sv_allb (sv_o1 G s as t r k pc lv fs) s.2.2.2.2.2.2)
noncomputable def sv_can2 (G : sv_GT) (s : sv_SM) (y2 : Nat) (as : List sv_V) (fs : sv_F) : Bool := Nat.beq s.1 y2 && (sv_all (fun a b => sv_s2 false a (match b with
  | .inl b => .inl (b.1, b.2.1, 0, 0, 0)
  | .inr o => .inr o)) as s.2.2.2.1 && sv_allb (sv_sp G s.2.2.1 fs) s.2.2.2.2.1)
noncomputable def sv_find (G : sv_GT) (S : List sv_SM) (W : sv_WR) (dep y2 : Nat) (as t : List sv_V) (k : sv_K) (pc : Nat) (lv : sv_L) (fs : sv_F) : Bool := List.rec (motive := fun _ => Bool) false (fun s _ ih => cond (sv_can2 G s y2 as fs) (sv_use G W dep s as t k pc lv fs) ih) S
noncomputable def sv_rcv (y2 : Nat) (as : List sv_V) : Bool := match as with
  | .inr (some k) :: _ => (match cm_sh k with
    | some c => Nat.beq c.1 (ia_cls y2) && Nat.blt c.1 13
    | none => false)
  | _ => false
noncomputable def sv_take (n : Nat) (acc st : List sv_V) (k : List sv_V → List sv_V → Bool) : Bool := Nat.rec (motive := fun _ => List sv_V → List sv_V → Bool) (fun acc st => k acc st) (fun _ ih acc st => match st with
  | [] => false
  | a :: t => ih (a :: acc) t) n acc st
noncomputable def sv_cal (G : sv_GT) (S : List sv_SM) (W : sv_WR) (dep y kd i : Nat) (k : sv_K) (pc : Nat) (lv : sv_L) (st : List sv_V) (fs : sv_F) : Bool := match ia_pl (ia_cls y) i with
  | some (1, y2, md, _, _) => (Nat.beq kd md && (Nat.beq (ia_mc y2) 0 && Nat.beq (ia_ms y2) 0)) && sv_take (ia_na y2) [] st (fun as t => (Nat.ble (sv_sz t) 8 && (Nat.beq md 1 || sv_rcv y2 as)) && sv_find G S W dep y2 as t k pc lv fs)
  | _ => false
noncomputable def sv_cpy (G : sv_GT) (W : sv_WR) (k : sv_K) (pc : Nat) (lv : sv_L) (st : List sv_V) (fs : sv_F) : Bool := match st with
  | .inl n :: .inl dp :: .inr (some d) :: .inl sp :: .inr (some s) :: t => (match cm_sh s with
    | some cs => (match cm_sh d with
      | some cd => (Nat.ble (sv_sz t) 8 && ((Nat.beq sp.1 2147483648 && Nat.beq sp.2.1 2147483648) && ((Nat.beq dp.1 2147483648 && Nat.beq dp.2.1 2147483648) && ((Nat.beq n.1 (Nat.add 2147483648 cs.2.1) && Nat.beq n.2.1 (Nat.add 2147483648 cs.2.1)) && (Nat.blt cs.2.1 16000 && (Nat.beq cs.2.1 cd.2.1 && (Nat.beq cs.1 cd.1 && ((Nat.beq cs.1 50 || Nat.beq cs.1 51) && (cs.2.2.isEmpty && cd.2.2.isEmpty))))))))) && ia_frc (Nat.sub (Nat.mul 16 (Nat.div (Nat.add cs.2.1 15) 16)) 1) (fun m => (Nat.blt 0 cs.2.1 && sv_wr W d 0 m) && (ia_frc (sv_hl (sv_gr G s) 0 m).1 (fun lo => ia_frc (sv_hl (sv_gr G s) 0 m).2 (fun hi => sv_gi (lo, hi) (sv_gr G d) 0 m && ia_frc (sv_q d 0) (fun q1 => ia_frc (sv_q d m) (fun q2 => sv_mapK (sv_fj q1 q2 (lo, hi, 0, 0, 0)) fs (fun fs => sv_cl lv (fun lv => sv_cs t (fun t => sv_nx k (Nat.add pc 3) lv t fs)))))))))
      | none => false)
    | none => false)
  | _ => false
noncomputable def sv_inv (G : sv_GT) (S : List sv_SM) (W : sv_WR) (dep y i : Nat) (k : sv_K) (pc : Nat) (lv : sv_L) (st : List sv_V) (fs : sv_F) : Bool := match ia_pl (ia_cls y) i with
  | some (1, _, _, _, _) => sv_cal G S W dep y 1 i k pc lv st fs
  | some (3, _, _, _, _) => sv_cpy G W k pc lv st fs
  | some (7, _, _, _, _) => (match st with
    | .inl b :: .inl a :: t => Nat.ble (sv_sz t) 8 && sv_bin sv_min k (Nat.add pc 2) lv st fs
    | _ => false)
  | some (17, _, _, _, _) => (match st with
    | .inl b :: .inl a :: t => Nat.ble (sv_sz t) 8 && sv_bin sv_max k (Nat.add pc 2) lv st fs
    | _ => false)
  | _ => false
/-! ### an end -/
noncomputable def sv_ofit (ty : FieldType) (a : sv_I) : Bool := match ty with
  | .int => true
  | .boolean => Nat.ble 2147483648 a.1 && Nat.ble a.2.1 2147483649
  | _ => false
noncomputable def sv_end (G : sv_GT) (na : Nat) (outs : List sv_OUT) (r : Option sv_V) (lv : sv_L) (fs : sv_F) : Bool := sv_anyb (fun o => (match r, o.1 with
  | some (.inl a), some (.inl b) => Nat.ble b.1 a.1 && Nat.ble a.2.1 b.2.1
  | some (.inr none), some (.inr none) => true
  | none, none => true
  | _, _ => false) && (Nat.ble o.2.1.length na && (sv_all (fun b a => sv_s3 false a (some (match b with
    | .inl b => .inl (b.1, b.2.1, 0, 0, 0)
    | .inr o => .inr o))) o.2.1 (lv.take o.2.1.length) && sv_allb (fun f => sv_sf G true fs (f.1, f.2.1, f.2.2.1, f.2.2.2.1, 0)) o.2.2))) outs
noncomputable def sv_do (G : sv_GT) (S : List sv_SM) (s : sv_SM) (na y : Nat) (ins : Instr) (len : Nat) (k : sv_K) (pc : Nat) (lv : sv_L) (st : List sv_V) (fs : sv_F) : Bool := match ins with
  | .iconst c => Nat.beq len 1 && sv_pu k (ia_E (Int32.ofInt c)) (Nat.add pc 1) lv st fs
  | .bipush c => Nat.beq len 2 && sv_pu k (ia_E (Int8.ofInt c).toInt32) (Nat.add pc 2) lv st fs
  | .sipush c => Nat.beq len 3 && sv_pu k (ia_E (Int16.ofInt c).toInt32) (Nat.add pc 3) lv st fs
  | .lconst _ => Nat.beq len 1 && sv_nx k (Nat.add pc 1) lv (.inr none :: st) fs
  | .iload_n i => Nat.beq len 1 && sv_ld 0 i.val 1 k pc lv st fs
  | .iload i => Nat.beq len 2 && sv_ld 0 i 2 k pc lv st fs
  | .lload_n i => Nat.beq len 1 && sv_ld 1 i.val 1 k pc lv st fs
  | .aload_n i => Nat.beq len 1 && sv_ld 2 i.val 1 k pc lv st fs
  | .aload i => Nat.beq len 2 && sv_ld 2 i 2 k pc lv st fs
  | .istore_n i => (Nat.beq len 1 && Nat.blt i.val (ia_maxL y)) && sv_sto na 0 i.val 1 k pc lv st fs
  | .istore i => (Nat.beq len 2 && Nat.blt i (ia_maxL y)) && sv_sto na 0 i 2 k pc lv st fs
  | .astore_n i => (Nat.beq len 1 && Nat.blt i.val (ia_maxL y)) && sv_sto na 2 i.val 1 k pc lv st fs
  | .astore i => (Nat.beq len 2 && Nat.blt i (ia_maxL y)) && sv_sto na 2 i 2 k pc lv st fs
  | .lstore_n i => (Nat.beq len 1 && Nat.blt (Nat.succ i.val) (ia_maxL y)) && sv_stl na i.val 1 k pc lv st fs
  | .iinc i d => (Nat.beq len 3 && (Nat.blt i (ia_maxL y) && (Nat.ble na i && sv_nl lv i))) && (match ia_at lv i with
    | some (some (.inl a)) => ia_frc (ia_E (Int32.ofInt d)) (fun c => sv_frc (sv_sum a (c, c, 0, 0, 0)) (fun v => sv_cs st (fun st => ia_setK lv i (some (.inl v)) (fun lv => sv_nx k (Nat.add pc 3) lv st fs))))
    | _ => false)
  | .iadd => Nat.beq len 1 && (match st with
    | .inl b :: .inl a :: t => sv_frc (sv_sum a b) (fun v => sv_nx k (Nat.add pc 1) lv (.inl v :: t) fs)
    | _ => false)
  | .isub => Nat.beq len 1 && sv_bin sv_sub k pc lv st fs
  | .imul => Nat.beq len 1 && sv_bin sv_mul k pc lv st fs
  | .iand => Nat.beq len 1 && sv_bin sv_and k pc lv st fs
  | .ior => Nat.beq len 1 && sv_bin sv_or k pc lv st fs
  | .ixor => Nat.beq len 1 && sv_bin sv_xor k pc lv st fs
  | .ishl => Nat.beq len 1 && sv_bin sv_shl k pc lv st fs
  | .ishr => Nat.beq len 1 && sv_bin sv_shr k pc lv st fs
  | .iushr => Nat.beq len 1 && sv_bin sv_ushr k pc lv st fs
  | .idiv => Nat.beq len 1 && (match st with
    | .inl b :: _ => sv_nz b && sv_bin sv_div k pc lv st fs
    | _ => false)
  | .irem => Nat.beq len 1 && (match st with
    | .inl b :: _ => sv_nz b && sv_bin sv_rem k pc lv st fs
    | _ => false)
  | .i2b => Nat.beq len 1 && (match st with
    | .inl _ :: t => sv_nx k (Nat.add pc 1) lv (.inl (0, 4294967295, 0, 0, 0) :: t) fs
    | _ => false)
  | .i2l => Nat.beq len 1 && (match st with
    | .inl _ :: t => sv_nx k (Nat.add pc 1) lv (.inr none :: t) fs
    | _ => false)
  | .ladd => Nat.beq len 1 && (match st with
    | .inr none :: .inr none :: t => sv_nx k (Nat.add pc 1) lv (.inr none :: t) fs
    | _ => false)
  | .lmul => Nat.beq len 1 && (match st with
    | .inr none :: .inr none :: t => sv_nx k (Nat.add pc 1) lv (.inr none :: t) fs
    | _ => false)
  | .lor => Nat.beq len 1 && (match st with
    | .inr none :: .inr none :: t => sv_nx k (Nat.add pc 1) lv (.inr none :: t) fs
    | _ => false)
  | .lshl => Nat.beq len 1 && (match st with
    | .inl _ :: .inr none :: t => sv_nx k (Nat.add pc 1) lv (.inr none :: t) fs
    | _ => false)
  | .lcmp => Nat.beq len 1 && (match st with
    | .inr none :: .inr none :: t => sv_nx k (Nat.add pc 1) lv (.inl (0, 4294967295, 0, 0, 0) :: t) fs
    | _ => false)
  | .dup => Nat.beq len 1 && (match st with
    | a :: t => !(sv_kd 1 a) && sv_nx k (Nat.add pc 1) lv (a :: a :: t) fs
    | _ => false)
  | .dup2 => Nat.beq len 1 && (match st with
    | a :: b :: t => (!(sv_kd 1 a) && !(sv_kd 1 b)) && sv_nx k (Nat.add pc 1) lv (a :: b :: a :: b :: t) fs
    | _ => false)
  | .pop => Nat.beq len 1 && (match st with
    | a :: t => !(sv_kd 1 a) && sv_nx k (Nat.add pc 1) lv t fs
    | _ => false)
  | .ifCond c o => Nat.beq len 3 && (match st with
    | .inl a :: t => sv_br c o a (2147483648, 2147483648, 0, 0, 0) k pc lv t fs
    | _ => false)
  | .if_icmp c o => Nat.beq len 3 && (match st with
    | .inl b :: .inl a :: t => sv_br c o a b k pc lv t fs
    | _ => false)
  | .goto o => Nat.beq len 3 && sv_jmp o k pc lv st fs
  | .tableswitch d lo hi os => sv_tsw d lo hi os.toList k pc lv st fs
  | .lookupswitch d ps => sv_lks d ps.toList k pc lv st fs
  | .getfield i => Nat.beq len 3 && (match st with
    | .inr (some n) :: t => (match ia_pl (ia_cls y) i with
      | some (0, ci, sl, _, _) => (match cm_sh n with
        | some c => (Nat.beq c.1 ci && (Nat.blt sl c.2.1 && Nat.blt sl 16384)) && ia_frc (cm_code c sl) (fun z => sv_get G n sl z k (Nat.add pc 3) lv t fs)
        | none => false)
      | _ => false)
    | _ => false)
  | .putfield i => Nat.beq len 3 && (match st with
    | .inl v :: .inr (some n) :: t => (match ia_pl (ia_cls y) i with
      | some (0, ci, sl, kd, _) => (match cm_sh n with
        | some c => ((Nat.beq c.1 ci && (Nat.blt sl c.2.1 && Nat.blt sl 16384)) && (Nat.beq (cm_code c sl) 0 && (Nat.beq kd 0 || (Nat.beq kd 1 && (Nat.ble 2147483648 v.1 && Nat.ble v.2.1 2147483649))))) && sv_put G s.2.2.2.2.2.1 n sl sl v k (Nat.add pc 3) lv t fs
        | none => false)
      | _ => false)
    | .inr none :: .inr (some n) :: t => (match ia_pl (ia_cls y) i with
      | some (0, ci, sl, kd, _) => (match cm_sh n with
        | some c => ((Nat.beq c.1 ci && Nat.blt sl c.2.1) && (Nat.beq (cm_code c sl) 1 && Nat.beq kd 2)) && (sv_wr s.2.2.2.2.2.1 n sl sl && sv_nx k (Nat.add pc 3) lv t fs)
        | none => false)
      | _ => false)
    | _ => false)
  | .iaload => Nat.beq len 1 && sv_al G 50 k pc lv st fs
  | .laload => Nat.beq len 1 && sv_ald k pc lv st fs
  | .baload => Nat.beq len 1 && cond (Nat.beq (sv_kn st 1) 52) (sv_al G 52 k pc lv st fs) (sv_al G 53 k pc lv st fs)
  | .aaload => Nat.beq len 1 && cond (Nat.beq (sv_kn st 1) 54) (sv_ala 54 k pc lv st fs) (sv_ala 55 k pc lv st fs)
  | .iastore => Nat.beq len 1 && sv_as G s.2.2.2.2.2.1 50 (fun v => v) k pc lv st fs
  | .lastore => Nat.beq len 1 && sv_asl s.2.2.2.2.2.1 k pc lv st fs
  | .bastore => Nat.beq len 1 && cond (Nat.beq (sv_kn st 2) 52) (sv_as G s.2.2.2.2.2.1 52 (fun _ => (0, 4294967295, 0, 0, 0)) k pc lv st fs) (sv_as G s.2.2.2.2.2.1 53 (fun _ => (2147483648, 2147483649, 0, 0, 0)) k pc lv st fs)
  | .arraylength => Nat.beq len 1 && (match st with
    | .inr (some n) :: t => (match cm_sh n with
      | some c => (Nat.ble 50 c.1 && (Nat.ble c.1 55 && Nat.blt c.2.1 2147483648)) && sv_pu k (Nat.add c.2.1 2147483648) (Nat.add pc 1) lv t fs
      | none => false)
    | _ => false)
  | .ldc i => Nat.beq len 2 && (match ia_pl (ia_cls y) i with
    | some (8, v, _, _, _) => sv_pu k v (Nat.add pc 2) lv st fs
    | _ => false)
  | .ldc_w i => Nat.beq len 3 && (match ia_pl (ia_cls y) i with
    | some (8, v, _, _, _) => sv_pu k v (Nat.add pc 3) lv st fs
    | _ => false)
  | .ldc2_w i => Nat.beq len 3 && (match ia_pl (ia_cls y) i with
    | some (9, v, _, _, _) => Nat.blt v 18446744073709551616 && sv_nx k (Nat.add pc 3) lv (.inr none :: st) fs
    | _ => false)
  | .invokevirtual i => Nat.beq len 3 && sv_cal G S s.2.2.2.2.2.1 s.2.1 y 0 i k pc lv st fs
  | .invokestatic i => Nat.beq len 3 && sv_inv G S s.2.2.2.2.2.1 s.2.1 y i k pc lv st fs
  | .ireturn => Nat.beq len 1 && (match st with
    | [.inl a] => (match ia_ret y with
      | some ty => sv_ofit ty a && sv_end G na s.2.2.2.2.2.2 (some (.inl a)) lv fs
      | none => false)
    | _ => false)
  | .lreturn => Nat.beq len 1 && (match st with
    | [.inr none] => (match ia_ret y with
      | some .long => sv_end G na s.2.2.2.2.2.2 (some (.inr none)) lv fs
      | _ => false)
    | _ => false)
  | .return_ => Nat.beq len 1 && (match st with
    | [] => (match ia_ret y with
      | none => sv_end G na s.2.2.2.2.2.2 none lv fs
      | some _ => false)
    | _ => false)
  | _ => false
/-! ### the list of places -/
noncomputable def sv_h0 (v : Option sv_V) (k : Option sv_V → Bool) : Bool := match v with
  | some (.inl (lo, hi, de, _, _)) => k (some (.inl (lo, hi, de, 0, 0)))
  | some (.inr o) => k (some (.inr o))
  | none => k none
noncomputable def sv_h1 (v : sv_V) (k : sv_V → Bool) : Bool := match v with
  | .inl (lo, hi, de, _, _) => k (.inl (lo, hi, de, 0, 0))
  | .inr o => k (.inr o)
noncomputable def sv_h2 (f : Nat × Nat × Nat × Nat × Nat) (k : Nat × Nat × Nat × Nat × Nat → Bool) : Bool := match f with
  | (q, lo, hi, de, _) => k (q, lo, hi, de, 0)
/-- the rank's own number -/
noncomputable def sv_rk (rk : Nat) (lv : sv_L) (fs : sv_F) (k : sv_L → sv_F → Bool) : Bool := cond (Nat.beq rk 0) (k lv fs) (cond (Nat.beq (Nat.mod rk 2) 1) (match ia_at lv (Nat.div rk 2) with
  | some (some (.inl (lo, hi, de, _, _))) => ia_setK lv (Nat.div rk 2) (some (.inl (lo, hi, de, 1, 0))) (fun lv => k lv fs)
  | _ => k lv fs) (ia_frc (Nat.sub (Nat.div rk 2) 1) (fun q => sv_mapK (fun f k => cond (Nat.beq f.1 q) (k (f.1, f.2.1, f.2.2.1, f.2.2.2.1, 1)) (k f)) fs (fun fs => k lv fs))))
noncomputable def sv_start (c : sv_CS) (k : sv_K) : Bool := cond (Nat.beq c.2.1 c.2.2.1) (sv_mapK sv_h0 c.2.2.2.2.1 (fun lv => sv_mapK sv_h1 c.2.2.2.2.2.1 (fun st => sv_mapK sv_h2 c.2.2.2.2.2.2 (fun fs => sv_rk c.2.2.2.1 lv fs (fun lv fs => k c.1 lv st fs))))) (sv_cl c.2.2.2.2.1 (fun lv => sv_cs c.2.2.2.2.2.1 (fun st => k c.1 lv st c.2.2.2.2.2.2)))
noncomputable def sv_sbs (G : sv_GT) (H : Bool) (c : sv_CS) (lv : sv_L) (st : List sv_V) (fs : sv_F) : Bool := sv_all (sv_s3 H) lv c.2.2.2.2.1 && (sv_all (sv_s2 H) st c.2.2.2.2.2.1 && sv_allb (sv_sf G H fs) c.2.2.2.2.2.2)
noncomputable def sv_rh (rk : Nat) (lv : sv_L) (fs : sv_F) : Bool := cond (Nat.beq rk 0) false (cond (Nat.beq (Nat.mod rk 2) 1) (match ia_at lv (Nat.div rk 2) with
  | some (some (.inl a)) => Nat.ble 2 a.2.2.2.1
  | _ => false) (Nat.ble 2 (sv_fv fs (Nat.sub (Nat.div rk 2) 1) (0, 0, 0, 0, 0)).2.2.2.1))
/-- from place number i, owner o, to c -/
noncomputable def sv_to (G : sv_GT) (i o : Nat) (c : sv_CS) (pc : Nat) (lv : sv_L) (st : List sv_V) (fs : sv_F) : Bool := Nat.beq c.1 pc && cond (Nat.blt i c.2.1) (cond (Nat.beq c.2.1 c.2.2.1) (sv_sbs G false c lv st fs) (Nat.beq c.2.2.1 o && sv_sbs G true c lv st fs)) (Nat.beq c.2.1 c.2.2.1 && (Nat.beq c.2.1 o && (sv_rh c.2.2.2.1 lv fs && sv_sbs G false c lv st fs)))
noncomputable def sv_step (G : sv_GT) (S : List sv_SM) (s : sv_SM) (na : Nat) (k : sv_K) (pc : Nat) (lv : sv_L) (st : List sv_V) (fs : sv_F) : Bool := match fdd s.1 pc with
  | .ok q => sv_do G S s na s.1 q.1 q.2 k pc lv st fs
  | .error _ => false
noncomputable def sv_x (G : sv_GT) (S : List sv_SM) (s : sv_SM) (na : Nat) (cut : List Nat) (cs : List sv_CS) (i o fuel : Nat) : sv_K := Nat.rec (motive := fun _ => sv_K) (fun _ _ _ _ => false) (fun _ ih pc lv st fs => cond (sv_anyb (fun p => Nat.beq p pc) cut) (sv_anyb (fun c => sv_to G i o c pc lv st fs) cs) (sv_step G S s na ih pc lv st fs)) fuel
/-- every number from lo on, n of them -/
noncomputable def sv_rng (lo n : Nat) (f : Nat → Bool) : Bool := Nat.rec (motive := fun _ => Bool) true (fun i ih => cond (ia_frc (Nat.add lo i) f) ih false) n
/-- a number, each of its values by itself -/
noncomputable def sv_spl (rk : Nat) (lv : sv_L) (fs : sv_F) (k : sv_L → sv_F → Bool) : Bool := cond (Nat.beq (Nat.mod rk 2) 1) (match ia_at lv (Nat.div rk 2) with
  | some (some (.inl (lo, hi, de, dh, _))) => ia_frc (Nat.sub (Nat.succ hi) lo) (fun n => sv_rng lo n (fun v => ia_setK lv (Nat.div rk 2) (some (.inl (v, v, de, dh, 0))) (fun lv => k lv fs)))
  | _ => false) (ia_frc (Nat.sub (Nat.div rk 2) 1) (fun q => match sv_fq fs q with
  | some p => ia_frc (Nat.sub (Nat.succ p.2) p.1) (fun n => sv_rng p.1 n (fun v => sv_mapK (sv_fm q (v, v)) fs (fun fs => k lv fs)))
  | none => false))
noncomputable def sv_sp1 (sp : List (Nat × Nat)) (i : Nat) : Nat := List.rec (motive := fun _ => Nat) 0 (fun a _ ih => cond (Nat.beq a.1 i) a.2 ih) sp
noncomputable def sv_run1 (G : sv_GT) (S : List sv_SM) (s : sv_SM) (na : Nat) (cut : List Nat) (cs : List sv_CS) (sp : List (Nat × Nat)) (N : Nat) (c : sv_CS) : Bool := (Nat.ble c.2.1 N && Nat.ble c.2.2.1 c.2.1) && sv_start c (fun pc lv st fs => cond (Nat.beq (sv_sp1 sp c.2.1) 0) (sv_step G S s na (sv_x G S s na cut cs c.2.1 c.2.2.1 100000) pc lv st fs) (sv_spl (sv_sp1 sp c.2.1) lv fs (fun lv fs => sv_anyb (fun c' => sv_to G c.2.1 c.2.2.1 c' pc lv st fs) cs)))
noncomputable def sv_ent (as : List sv_V) : sv_L := List.rec (motive := fun _ => sv_L) [] (fun a _ ih => match a with
  | .inl a => some (.inl (a.1, a.2.1, 0, 0, 0)) :: ih
  | .inr none => some (.inr none) :: none :: ih
  | .inr (some k) => some (.inr (some k)) :: ih) as
/-- the whole check of a method at a summary -/
noncomputable def sv_chk (G : sv_GT) (S : List sv_SM) (s : sv_SM) (na : Nat) (cut : List Nat) (cs : List sv_CS) (sp : List (Nat × Nat)) (N : Nat) : Bool := (Nat.ble (sv_sz s.2.2.2.1) (ia_maxL s.1) && (Nat.blt 0 s.2.1 && (sv_allb (fun f => Nat.beq f.2.2.2.2 0 && (Nat.beq f.2.2.2.1 0 || (Nat.beq f.1 s.2.2.1 && Nat.ble f.2.2.2.1 1))) s.2.2.2.2.1 && sv_allb (fun v => match v with
  | .inr none => false
  | _ => true) (s.2.2.2.1.take na)))) && (sv_x G S s na cut cs 0 0 100000 0 (sv_ent s.2.2.2.1 ++ List.replicate (Nat.sub (ia_maxL s.1) (sv_sz s.2.2.2.1)) none) [] s.2.2.2.2.1 && sv_allb (sv_run1 G S s na cut cs sp N) cs)
