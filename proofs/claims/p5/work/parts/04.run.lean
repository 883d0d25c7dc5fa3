/-! ## tables -/
noncomputable def ia_mt (k : Nat) : Nat × Nat × Nat × Nat × Nat × Nat × Nat × Nat := (ia_at ia_Mt k).getD (0, 0, 0, 0, 99, 0, 0, 0)
noncomputable def ia_w (p : Nat) : Cond := (ia_at lw_tbl p).getD .returned
noncomputable def ia_cw (k : Nat) : Cond := ia_w (ia_mt k).1
noncomputable def ia_nm (k : Nat) : MethodName := match ia_cw k with
  | .code y _ _ _ => y
  | _ => ⟨"", "", ""⟩
noncomputable def ia_code (k : Nat) : ByteArray := match ia_cw k with
  | .code _ cc _ _ => cc
  | _ => ⟨#[]⟩
noncomputable def ia_maxL (k : Nat) : Nat := match ia_cw k with
  | .code _ _ n _ => n
  | _ => 0
noncomputable def ia_ret (k : Nat) : Option FieldType := match ia_cw k with
  | .code _ _ _ r => r
  | _ => none
noncomputable def ia_cls (k : Nat) : Nat := (ia_mt k).2.2.2.2.1
noncomputable def ia_mc (k : Nat) : Nat := (ia_mt k).2.2.2.2.2.1
noncomputable def ia_ms (k : Nat) : Nat := (ia_mt k).2.2.2.2.2.2.1
noncomputable def ia_na (k : Nat) : Nat := (ia_mt k).2.2.2.2.2.2.2
noncomputable def ia_lk (l : List (Nat × Nat × Nat × Nat × Nat × Nat)) (i : Nat) : Option (Nat × Nat × Nat × Nat × Nat) := List.rec (motive := fun _ => Option (Nat × Nat × Nat × Nat × Nat)) none (fun a _ ih => match Nat.beq a.1 i with
  | true => some a.2
  | false => ih) l
noncomputable def ia_pl (c i : Nat) : Option (Nat × Nat × Nat × Nat × Nat) := ia_lk ((ia_at ia_Po c).getD []) i
/-- a new object's fields -/
noncomputable def ia_fz (ty : FieldType) : ia_V := match ty with
  | .long => .inr (.inl 0)
  | .object _ => .inr (.inr (.inl none))
  | .array _ => .inr (.inr (.inl none))
  | _ => .inl (2147483648, 2147483648)
noncomputable def ia_chars : List Nat := [2147483763, 2147483760, 2147483745, 2147483758, 2147483680, 2147483767, 2147483753, 2147483758, 2147483764, 2147483749, 2147483762, 2147483680, 2147483760, 2147483749, 2147483762, 2147483763, 2147483759, 2147483758, 2147483680, 2147483750, 2147483759, 2147483759, 2147483748, 2147483680, 2147483757, 2147483749, 2147483749, 2147483764, 2147483753, 2147483758, 2147483751, 2147483680, 2147483748, 2147483749, 2147483746, 2147483764, 2147483680, 2147483749, 2147483745, 2147483764, 2147483763, 2147483680, 2147483745, 2147483753, 2147483756, 2147483763, 2147483680, 2147483757, 2147483749, 2147483758, 2147483748, 2147483763, 2147483680, 2147483757, 2147483749, 2147483749, 2147483764, 2147483680, 2147483752, 2147483759, 2147483765, 2147483762, 2147483680, 2147483759, 2147483762, 2147483680, 2147483745, 2147483758, 2147483748, 2147483680, 2147483758, 2147483759, 2147483764, 2147483680, 2147483753, 2147483756, 2147483756, 2147483680, 2147483759, 2147483767, 2147483749, 2147483763, 2147483680, 2147483756, 2147483753, 2147483755, 2147483749, 2147483680, 2147483753, 2147483758, 2147483680, 2147483748, 2147483745, 2147483764, 2147483749, 2147483680, 2147483752, 2147483765, 2147483758, 2147483751, 2147483749, 2147483762, 2147483680, 2147483747, 2147483759, 2147483753, 2147483758, 2147483680, 2147483758, 2147483765, 2147483757, 2147483746, 2147483749, 2147483762, 2147483680]
/-! ## steps -/
noncomputable def ia_if {α : Type} (b : Bool) (x : Option α) : Option α := match b with
  | true => x
  | false => none
noncomputable def ia_nx (ih : ia_K) (pc : Nat) (lv : List (Option ia_V)) (st : List ia_V) (σ : ia_H) (n nc ns : Nat) : Option ia_O := ia_frc pc (fun pc => ih pc lv st σ n nc ns)
noncomputable def ia_pi (ih : ia_K) (r pc : Nat) (lv : List (Option ia_V)) (st : List ia_V) (σ : ia_H) (n nc ns : Nat) : Option ia_O := ia_frc r (fun r => ia_nx ih pc lv (.inl (r, r) :: st) σ n nc ns)
noncomputable def ia_bin (f : Nat → Nat → Nat) (ih : ia_K) (pc : Nat) (lv : List (Option ia_V)) (st : List ia_V) (σ : ia_H) (n nc ns : Nat) : Option ia_O := match st with
  | .inl b :: .inl a :: t => (match Nat.beq a.1 a.2 with
    | true => (match Nat.beq b.1 b.2 with
      | true => ia_pi ih (f a.1 b.1) (Nat.add pc 1) lv t σ n nc ns
      | false => ia_nx ih (Nat.add pc 1) lv (.inl ia_top :: t) σ n nc ns)
    | false => ia_nx ih (Nat.add pc 1) lv (.inl ia_top :: t) σ n nc ns)
  | _ => none
noncomputable def ia_un (f : Nat → Nat) (ih : ia_K) (pc : Nat) (lv : List (Option ia_V)) (st : List ia_V) (σ : ia_H) (n nc ns : Nat) : Option ia_O := match st with
  | .inl a :: t => (match Nat.beq a.1 a.2 with
    | true => ia_pi ih (f a.1) (Nat.add pc 1) lv t σ n nc ns
    | false => ia_nx ih (Nat.add pc 1) lv (.inl ia_top :: t) σ n nc ns)
  | _ => none
noncomputable def ia_op (op : Int32 → Int32 → Int32) (a b : Nat) : Nat := ia_E (op (ia_D a) (ia_D b))
/-- kinds: 0 int, 1 long, 2 a reference -/
noncomputable def ia_kd (kd : Nat) (v : ia_V) : Bool := match v with
  | .inl _ => Nat.beq kd 0
  | .inr (.inl _) => Nat.beq kd 1
  | .inr (.inr (.inl none)) => false
  | .inr (.inr (.inl (some _))) => Nat.beq kd 2
  | .inr (.inr (.inr z)) => Nat.beq kd 2 && Nat.blt z 2
noncomputable def ia_ld (kd i len : Nat) (ih : ia_K) (pc : Nat) (lv : List (Option ia_V)) (st : List ia_V) (σ : ia_H) (n nc ns : Nat) : Option ia_O := match ia_at lv i with
  | some (some v) => ia_if (ia_kd kd v) (ia_nx ih (Nat.add pc len) lv (v :: st) σ n nc ns)
  | _ => none
/-- no long ends at this local -/
noncomputable def ia_nl (lv : List (Option ia_V)) (i : Nat) : Bool := Nat.rec (motive := fun _ => Bool) true (fun m _ => match ia_at lv m with
  | some (some (.inr (.inl _))) => false
  | _ => true) i
noncomputable def ia_sto (kd i len : Nat) (ih : ia_K) (pc : Nat) (lv : List (Option ia_V)) (st : List ia_V) (σ : ia_H) (n nc ns : Nat) : Option ia_O := match st with
  | v :: t => ia_if (ia_kd kd v && ia_nl lv i) (ia_setK lv i (some v) (fun lv => ia_nx ih (Nat.add pc len) lv t σ n nc ns))
  | [] => none
noncomputable def ia_stl (i len : Nat) (ih : ia_K) (pc : Nat) (lv : List (Option ia_V)) (st : List ia_V) (σ : ia_H) (n nc ns : Nat) : Option ia_O := match st with
  | .inr (.inl v) :: t => ia_if (ia_nl lv i) (ia_setK lv i (some (.inr (.inl v))) (fun lv => ia_setK lv (Nat.succ i) none (fun lv => ia_nx ih (Nat.add pc len) lv t σ n nc ns)))
  | _ => none
noncomputable def ia_ltb (a b : Nat × Nat) : Option Bool := match Nat.blt a.2 b.1 with
  | true => some true
  | false => (match Nat.ble b.2 a.1 with
    | true => some false
    | false => none)
noncomputable def ia_eqb (a b : Nat × Nat) : Option Bool := match Nat.blt a.2 b.1 with
  | true => some false
  | false => (match Nat.blt b.2 a.1 with
    | true => some false
    | false => (match Nat.beq a.1 a.2 with
      | true => (match Nat.beq b.1 b.2 with
        | true => (match Nat.beq a.1 b.1 with
          | true => some true
          | false => none)
        | false => none)
      | false => none))
noncomputable def ia_not (x : Option Bool) : Option Bool := match x with
  | some true => some false
  | some false => some true
  | none => none
noncomputable def ia_cmp (c : ClassFile.Cond) (a b : Nat × Nat) : Option Bool := match c with
  | .eq => ia_eqb a b
  | .ne => ia_not (ia_eqb a b)
  | .lt => ia_ltb a b
  | .ge => ia_not (ia_ltb a b)
  | .gt => ia_ltb b a
  | .le => ia_not (ia_ltb b a)
noncomputable def ia_jmp (o : Int) (ih : ia_K) (pc : Nat) (lv : List (Option ia_V)) (st : List ia_V) (σ : ia_H) (n nc ns : Nat) : Option ia_O := match Int.add (Int.ofNat pc) o with
  | .ofNat t => ia_nx ih t lv st σ n nc ns
  | .negSucc _ => none
noncomputable def ia_br (r : Option Bool) (o : Int) (ih : ia_K) (pc : Nat) (lv : List (Option ia_V)) (st : List ia_V) (σ : ia_H) (n nc ns : Nat) : Option ia_O := match Int.add (Int.ofNat pc) o with
  | .ofNat t => (match r with
    | some true => ia_nx ih t lv st σ n nc ns
    | some false => ia_nx ih (Nat.add pc 3) lv st σ n nc ns
    | none => none)
  | .negSucc _ => none
noncomputable def ia_sw (d lo hi : Int) (os : Array Int) (ih : ia_K) (pc : Nat) (lv : List (Option ia_V)) (st : List ia_V) (σ : ia_H) (n nc ns : Nat) : Option ia_O := match st with
  | .inl a :: t => (match decide (Int.ofNat a.2 - 2147483648 < lo) || decide (hi < Int.ofNat a.1 - 2147483648) with
    | true => ia_jmp d ih pc lv t σ n nc ns
    | false => (match Nat.beq a.1 a.2 with
      | true => (match ia_at os.toList (Int.ofNat a.1 - 2147483648 - lo).toNat with
        | some o => ia_jmp o ih pc lv t σ n nc ns
        | none => none)
      | false => none))
  | _ => none
noncomputable def ia_gf (y i : Nat) (ih : ia_K) (pc : Nat) (lv : List (Option ia_V)) (st : List ia_V) (σ : ia_H) (n nc ns : Nat) : Option ia_O := match st with
  | .inr (.inr (.inl (some k))) :: t => (match ia_pl (ia_cls y) i with
    | some (0, ci, sl, _, _) => (match ia_get2 σ k with
      | some c => ia_if (Nat.beq c.1 ci) (match ia_get2 c.2.2 sl with
        | some v => ia_nx ih (Nat.add pc 3) lv (v :: t) σ n nc ns
        | none => none)
      | none => none)
    | _ => none)
  | .inr (.inr (.inr 0)) :: t => (match ia_pl (ia_cls y) i with
    | some (11, _, _, _, _) => ia_nx ih (Nat.add pc 3) lv (.inr (.inr (.inr 1)) :: t) σ n nc ns
    | some (12, _, _, _, _) => ia_nx ih (Nat.add pc 3) lv (.inl (2147483648, 2147483648) :: t) σ n nc ns
    | _ => none)
  | _ => none
noncomputable def ia_gs (y i : Nat) (ih : ia_K) (pc : Nat) (lv : List (Option ia_V)) (st : List ia_V) (σ : ia_H) (n nc ns : Nat) : Option ia_O := match ia_pl (ia_cls y) i with
  | some (13, _, _, _, _) => ia_nx ih (Nat.add pc 3) lv (.inl (2147483649, 2147483649) :: st) σ n nc ns
  | some (14, _, _, _, _) => ia_nx ih (Nat.add pc 3) lv (.inr (.inr (.inr 2)) :: st) σ n nc ns
  | _ => none
/-- what may be put: kinds 0 int, 1 boolean, 2 long, 3 reference; four more: final, in the class's own constructor -/
noncomputable def ia_fit (y ci kd : Nat) (v : ia_V) : Bool := match kd, v with
  | 0, .inl _ => true
  | 1, .inl a => Nat.beq a.1 a.2 && (Nat.beq a.1 2147483648 || Nat.beq a.1 2147483649)
  | 2, .inr (.inl _) => true
  | 3, .inr (.inr _) => true
  | 7, .inr (.inr _) => Nat.beq (ia_cls y) ci && decide ((ia_nm y).name = "<init>")
  | _, _ => false
noncomputable def ia_pf (y i : Nat) (ih : ia_K) (pc : Nat) (lv : List (Option ia_V)) (st : List ia_V) (σ : ia_H) (n nc ns : Nat) : Option ia_O := match st with
  | v :: .inr (.inr (.inl (some k))) :: t => (match ia_pl (ia_cls y) i with
    | some (0, ci, sl, kd, _) => (match ia_get2 σ k with
      | some c => ia_if (Nat.beq c.1 ci && (ia_fit y ci kd v && (ia_get2 c.2.2 sl).isSome)) (ia_set2K c.2.2 sl v (fun fs => ia_set2K σ k (c.1, c.2.1, fs) (fun σ => ia_nx ih (Nat.add pc 3) lv t σ n nc ns)))
      | none => none)
    | _ => none)
  | _ => none
/-- an array's cell and the place in it, of a kind -/
noncomputable def ia_ix {α : Type} (tg : Nat) (σ : ia_H) (k : Nat) (a : Nat × Nat) (f : ia_C → Nat → Option α) : Option α := match ia_get2 σ k with
  | some c => ia_if (Nat.beq c.1 tg && (Nat.beq a.1 a.2 && (Nat.ble 2147483648 a.1 && Nat.blt (Nat.sub a.1 2147483648) c.2.1))) (ia_frc (Nat.sub a.1 2147483648) (fun j => f c j))
  | none => none
noncomputable def ia_al (tg : Nat) (ih : ia_K) (pc : Nat) (lv : List (Option ia_V)) (st : List ia_V) (σ : ia_H) (n nc ns : Nat) : Option ia_O := match st with
  | .inl a :: .inr (.inr (.inl (some k))) :: t => ia_ix tg σ k a (fun c j => match ia_get2 c.2.2 j with
    | some v => ia_nx ih (Nat.add pc 1) lv (v :: t) σ n nc ns
    | none => none)
  | _ => none
/-- a byte of the String -/
noncomputable def ia_alb (ih : ia_K) (pc : Nat) (lv : List (Option ia_V)) (st : List ia_V) (σ : ia_H) (n nc ns : Nat) : Option ia_O := match st with
  | .inl a :: .inr (.inr (.inr 1)) :: t => ia_if (Nat.beq a.1 a.2 && Nat.ble 2147483648 a.1) (match ia_at ia_chars (Nat.sub a.1 2147483648) with
    | some r => ia_nx ih (Nat.add pc 1) lv (.inl (r, r) :: t) σ n nc ns
    | none => none)
  | _ :: .inr (.inr (.inl (some k))) :: _ => (match ia_get2 σ k with
    | some c => (match Nat.beq c.1 52 with
      | true => ia_al 52 ih pc lv st σ n nc ns
      | false => ia_al 53 ih pc lv st σ n nc ns)
    | none => none)
  | _ => none
/-- what a small array keeps of an int -/
noncomputable def ia_nr (ty : FieldType) (a : Nat × Nat) : Nat × Nat := match Nat.beq a.1 a.2 with
  | true => ia_frc (ia_E (vp_nar ty (ia_D a.1))) (fun r => (r, r))
  | false => ia_top
noncomputable def ia_as (tg : Nat) (g : ia_V → Option ia_V) (ih : ia_K) (pc : Nat) (lv : List (Option ia_V)) (st : List ia_V) (σ : ia_H) (n nc ns : Nat) : Option ia_O := match st with
  | v :: .inl a :: .inr (.inr (.inl (some k))) :: t => (match g v with
    | some v => ia_ix tg σ k a (fun c j => ia_set2K c.2.2 j v (fun fs => ia_set2K σ k (c.1, c.2.1, fs) (fun σ => ia_nx ih (Nat.add pc 1) lv t σ n nc ns)))
    | none => none)
  | _ => none
noncomputable def ia_gi (v : ia_V) : Option ia_V := match v with
  | .inl a => some (.inl a)
  | _ => none
noncomputable def ia_gl (v : ia_V) : Option ia_V := match v with
  | .inr (.inl a) => some (.inr (.inl a))
  | _ => none
noncomputable def ia_gn (ty : FieldType) (v : ia_V) : Option ia_V := match v with
  | .inl a => some (.inl (ia_nr ty a))
  | _ => none
/-- a reference to an object of the class -/
noncomputable def ia_gr (σ : ia_H) (ci : Nat) (v : ia_V) : Option ia_V := match v with
  | .inr (.inr (.inl (some k))) => (match ia_get2 σ k with
    | some c => ia_if (Nat.beq c.1 ci) (some (.inr (.inr (.inl (some k)))))
    | none => none)
  | _ => none
noncomputable def ia_len (ih : ia_K) (pc : Nat) (lv : List (Option ia_V)) (st : List ia_V) (σ : ia_H) (n nc ns : Nat) : Option ia_O := match st with
  | .inr (.inr (.inl (some k))) :: t => (match ia_get2 σ k with
    | some c => ia_if (Nat.ble 50 c.1 && (Nat.ble c.1 55 && Nat.blt c.2.1 2147483648)) (ia_pi ih (Nat.add c.2.1 2147483648) (Nat.add pc 1) lv t σ n nc ns)
    | none => none)
  | .inr (.inr (.inr 1)) :: t => ia_nx ih (Nat.add pc 1) lv (.inl (2147483763, 2147483763) :: t) σ n nc ns
  | _ => none
/-- a new cell, of so many slots -/
noncomputable def ia_mk (y : Nat) (c : ia_C) (len : Nat) (ih : ia_K) (pc : Nat) (lv : List (Option ia_V)) (st : List ia_V) (σ : ia_H) (n nc ns : Nat) : Option ia_O := ia_if (Nat.ble (Nat.succ nc) (ia_mc y) && Nat.ble (Nat.add ns c.2.1) (ia_ms y)) (ia_set2K σ n c (fun σ => ia_frc (Nat.add ns c.2.1) (fun ns => ia_nx ih (Nat.add pc len) lv (.inr (.inr (.inl (some n))) :: st) σ (Nat.succ n) (Nat.succ nc) ns)))
noncomputable def ia_rows (k : Nat) (z : ia_V) : List (List ia_V) := List.replicate (Nat.div (Nat.add k 15) 16) (List.replicate 16 z)
noncomputable def ia_na1 (y tg len : Nat) (z : ia_V) (ih : ia_K) (pc : Nat) (lv : List (Option ia_V)) (st : List ia_V) (σ : ia_H) (n nc ns : Nat) : Option ia_O := match st with
  | .inl a :: t => ia_if (Nat.beq a.1 a.2 && (Nat.ble 2147483648 a.1 && Nat.ble a.1 2147493648)) (ia_frc (Nat.sub a.1 2147483648) (fun k => ia_mk y (tg, k, ia_rows k z) len ih pc lv t σ n nc ns))
  | _ => none
noncomputable def ia_z : ia_V := .inl (2147483648, 2147483648)
noncomputable def ia_nu : ia_V := .inr (.inr (.inl none))
/-- the fields of a new object, class by class -/
noncomputable def ia_Fs : List (Nat × List (List ia_V)) := [
  (10, [[ia_nu, ia_nu, ia_z, ia_nu, ia_nu, ia_nu, ia_z, ia_z, ia_z, ia_z]]),
  (1, [[ia_z]]),
  (3, [[ia_nu, ia_z, ia_z]]),
  (4, [[ia_z, ia_nu, ia_nu, ia_nu]]),
  (3, [[ia_z, ia_z, ia_nu]]),
  (13, [[ia_nu, ia_nu, ia_z, ia_z, ia_z, ia_z, ia_z, .inr (.inl 0), ia_z, ia_z, ia_z, ia_z, ia_z]]),
  (7, [[ia_z, ia_z, ia_nu, ia_nu, ia_nu, ia_nu, ia_z]]),
  (10, [[ia_nu, ia_z, ia_z, ia_z, ia_nu, ia_nu, ia_nu, ia_nu, ia_nu, ia_nu]]),
  (11, [[ia_z, ia_z, ia_nu, ia_z, ia_nu, ia_nu, ia_nu, ia_nu, ia_z, ia_nu, ia_z]]),
  (20, [[ia_z, ia_z, ia_z, ia_z, ia_z, ia_z, ia_z, ia_nu, ia_nu, ia_nu, ia_nu, ia_nu, ia_nu, ia_nu, ia_nu, ia_nu], [ia_nu, ia_nu, ia_nu, ia_nu]]),
  (4, [[ia_nu, ia_nu, ia_z, ia_z]]),
  (17, [[ia_nu, ia_z, ia_nu, ia_z, ia_nu, ia_nu, ia_nu, ia_nu, ia_nu, ia_nu, ia_nu, ia_nu, ia_nu, ia_nu, ia_nu, ia_nu], [ia_nu]]),
  (48, [[ia_z, ia_nu, ia_z, ia_z, ia_z, ia_z, ia_nu, ia_nu, ia_nu, ia_nu, ia_nu, ia_z, ia_z, ia_z, ia_z, ia_z], [ia_z, .inr (.inl 0), ia_z, ia_z, ia_z, ia_nu, ia_nu, ia_z, ia_nu, ia_nu, ia_z, ia_z, ia_z, ia_z, ia_z, ia_nu], [ia_nu, ia_nu, ia_z, ia_z, ia_nu, ia_z, ia_nu, ia_z, ia_z, ia_z, ia_z, ia_z, ia_nu, ia_nu, ia_nu, ia_nu]])]
noncomputable def ia_no (y i : Nat) (ih : ia_K) (pc : Nat) (lv : List (Option ia_V)) (st : List ia_V) (σ : ia_H) (n nc ns : Nat) : Option ia_O := match ia_pl (ia_cls y) i with
  | some (6, ci, _, _, _) => (match ia_at ia_Fs ci with
    | some q => ia_mk y (ci, q.1, q.2) 3 ih pc lv st σ n nc ns
    | none => none)
  | _ => none
noncomputable def ia_nr1 (y i : Nat) (ih : ia_K) (pc : Nat) (lv : List (Option ia_V)) (st : List ia_V) (σ : ia_H) (n nc ns : Nat) : Option ia_O := match ia_pl (ia_cls y) i with
  | some (6, 3, _, _, _) => ia_na1 y 54 3 ia_nu ih pc lv st σ n nc ns
  | some (6, 7, _, _, _) => ia_na1 y 55 3 ia_nu ih pc lv st σ n nc ns
  | _ => none
noncomputable def ia_new (y : Nat) (t : ClassFile.ArrayType) (ih : ia_K) (pc : Nat) (lv : List (Option ia_V)) (st : List ia_V) (σ : ia_H) (n nc ns : Nat) : Option ia_O := match t with
  | .int => ia_na1 y 50 2 ia_z ih pc lv st σ n nc ns
  | .long => ia_na1 y 51 2 (.inr (.inl 0)) ih pc lv st σ n nc ns
  | .byte => ia_na1 y 52 2 ia_z ih pc lv st σ n nc ns
  | .boolean => ia_na1 y 53 2 ia_z ih pc lv st σ n nc ns
  | _ => none
noncomputable def ia_cst (y i len : Nat) (ih : ia_K) (pc : Nat) (lv : List (Option ia_V)) (st : List ia_V) (σ : ia_H) (n nc ns : Nat) : Option ia_O := match ia_pl (ia_cls y) i with
  | some (8, v, _, _, _) => ia_nx ih (Nat.add pc len) lv (.inl (v, v) :: st) σ n nc ns
  | some (10, _, _, _, _) => ia_if (Nat.beq len 2) (ia_nx ih (Nat.add pc len) lv (.inr (.inr (.inr 0)) :: st) σ n nc ns)
  | _ => none
noncomputable def ia_csl (y i : Nat) (ih : ia_K) (pc : Nat) (lv : List (Option ia_V)) (st : List ia_V) (σ : ia_H) (n nc ns : Nat) : Option ia_O := match ia_pl (ia_cls y) i with
  | some (9, v, _, _, _) => ia_nx ih (Nat.add pc 3) lv (.inr (.inl v) :: st) σ n nc ns
  | _ => none
/-! ## calls -/
noncomputable def ia_cat (v : ia_V) : Nat := match v with
  | .inr (.inl _) => 2
  | _ => 1
noncomputable def ia_sz (st : List ia_V) : Nat := List.rec (motive := fun _ => Nat) 0 (fun a _ ih => Nat.add (ia_cat a) ih) st
noncomputable def ia_take {α : Type} (k : Nat) : List ia_V → List ia_V → (List ia_V → List ia_V → Option α) → Option α := Nat.rec (motive := fun _ => List ia_V → List ia_V → (List ia_V → List ia_V → Option α) → Option α) (fun acc st f => f acc st) (fun _ ih acc st f => match st with
  | a :: t => ih (a :: acc) t f
  | [] => none) k
noncomputable def ia_ent (as : List ia_V) : List (Option ia_V) := List.rec (motive := fun _ => List (Option ia_V)) [] (fun a _ ih => match a with
  | .inr (.inl _) => some a :: none :: ih
  | _ => some a :: ih) as
noncomputable def ia_pad (k : Nat) (l : List (Option ia_V)) : List (Option ia_V) := List.rec (motive := fun _ => Nat → List (Option ia_V)) (fun k => List.replicate k none) (fun a _ ih k => a :: ih (Nat.pred k)) l k
noncomputable def ia_back (r : Option ia_V) (t : List ia_V) : List ia_V := match r with
  | some v => v :: t
  | none => t
noncomputable def ia_rcv (y2 : Nat) (σ : ia_H) (as : List ia_V) : Bool := match as with
  | .inr (.inr (.inl (some k))) :: _ => (match ia_get2 σ k with
    | some c => Nat.beq c.1 (ia_cls y2) && Nat.blt c.1 13
    | none => false)
  | .inr (.inr (.inr 0)) :: _ => Nat.beq (ia_cls y2) 15
  | _ => false
/-- kinds of calls: 0 invokevirtual, 1 invokestatic, 2 a constructor, 3 a nest mate's constructor -/
noncomputable def ia_inv (call : Nat → List ia_V → ia_H → Nat → Option ia_O) (y kd i : Nat) (ih : ia_K) (pc : Nat) (lv : List (Option ia_V)) (st : List ia_V) (σ : ia_H) (n nc ns : Nat) : Option ia_O := match ia_pl (ia_cls y) i with
  | some (1, y2, md, _, _) => ia_take (ia_na y2) [] st (fun as t => ia_if ((Nat.beq kd md || (Nat.beq kd 2 && Nat.beq md 3)) && (Nat.ble (ia_sz t) 8 && ((Nat.beq md 1 || ia_rcv y2 σ as) && (Nat.ble (Nat.add nc (ia_mc y2)) (ia_mc y) && Nat.ble (Nat.add ns (ia_ms y2)) (ia_ms y))))) (match call y2 as σ n with
    | some (r, σ', n') => ia_frc (Nat.add nc (ia_mc y2)) (fun nc => ia_frc (Nat.add ns (ia_ms y2)) (fun ns => ia_nx ih (Nat.add pc 3) lv (ia_back r t) σ' n' nc ns))
    | none => none))
  | some (2, _, _, _, _) => (match st with
    | .inr (.inr (.inl (some _))) :: t => ia_if (Nat.beq kd 2 && Nat.ble (ia_sz t) 8) (ia_nx ih (Nat.add pc 3) lv t σ n nc ns)
    | _ => none)
  | some (3, _, _, _, _) => (match st with
    | .inl k :: .inl dp :: .inr (.inr (.inl (some d))) :: .inl sp :: .inr (.inr (.inl (some s))) :: t => ia_if ((Nat.beq kd 1 && Nat.ble (ia_sz t) 8) && ((Nat.beq sp.1 2147483648 && Nat.beq sp.2 2147483648) && ((Nat.beq dp.1 2147483648 && Nat.beq dp.2 2147483648) && (Nat.beq k.1 k.2 && Nat.ble 2147483648 k.1)))) (match ia_get2 σ s with
      | some cs => (match ia_get2 σ d with
        | some cd => ia_if ((Nat.beq cs.1 cd.1 && (Nat.beq cs.1 50 || Nat.beq cs.1 51)) && (Nat.ble (Nat.sub k.1 2147483648) cs.2.1 && Nat.beq (Nat.sub k.1 2147483648) cd.2.1)) (ia_set2K σ d (cd.1, cd.2.1, cs.2.2) (fun σ => ia_nx ih (Nat.add pc 3) lv t σ n nc ns))
        | none => none)
      | none => none)
    | _ => none)
  | some (7, _, _, _, _) => (match st with
    | .inl b :: .inl a :: t => ia_if ((Nat.beq kd 1 && Nat.ble (ia_sz t) 8) && (Nat.beq a.1 a.2 && Nat.beq b.1 b.2)) (match Nat.blt b.1 a.1 with
      | true => ia_nx ih (Nat.add pc 3) lv (.inl b :: t) σ n nc ns
      | false => ia_nx ih (Nat.add pc 3) lv (.inl a :: t) σ n nc ns)
    | _ => none)
  | some (17, _, _, _, _) => (match st with
    | .inl b :: .inl a :: t => ia_if ((Nat.beq kd 1 && Nat.ble (ia_sz t) 8) && (Nat.beq a.1 a.2 && Nat.beq b.1 b.2)) (match Nat.blt a.1 b.1 with
      | true => ia_nx ih (Nat.add pc 3) lv (.inl b :: t) σ n nc ns
      | false => ia_nx ih (Nat.add pc 3) lv (.inl a :: t) σ n nc ns)
    | _ => none)
  | _ => none
/-- a number that a type keeps as it is -/
noncomputable def ia_nar (ty : FieldType) (u : Nat) : Bool := match ty with
  | .int => true
  | .boolean => Nat.beq u 2147483648 || Nat.beq u 2147483649
  | .char => Nat.ble 2147483648 u && Nat.blt u 2147549184
  | .byte => Nat.beq u 2147483648
  | _ => false
noncomputable def ia_rt (y : Nat) (st : List ia_V) (σ : ia_H) (n : Nat) : Option ia_O := match st with
  | [.inl a] => (match ia_ret y with
    | some ty => ia_if (Nat.beq a.1 a.2 && ia_nar ty a.1) (some (some (.inl a), σ, n))
    | none => none)
  | _ => none
noncomputable def ia_rv (y : Nat) (st : List ia_V) (σ : ia_H) (n : Nat) : Option ia_O := match st with
  | [] => (match ia_ret y with
    | none => some (none, σ, n)
    | some _ => none)
  | _ => none
/-! ## an instruction -/
/-- what an instruction does with the rest of the run -/
abbrev ia_T : Type := (Nat → List ia_V → ia_H → Nat → Option ia_O) → Nat → Nat → ia_K → ia_K
noncomputable def ia_d_none : ia_T := fun _ _ _ _ _ _ _ _ _ _ _ => none
noncomputable def ia_d_iconst (k : Int) : ia_T := fun call y len ih pc lv st σ n nc ns => ia_if (Nat.beq len 1) (ia_pi ih (ia_E (Int32.ofInt k)) (Nat.add pc 1) lv st σ n nc ns)
noncomputable def ia_d_bipush (k : Int) : ia_T := fun call y len ih pc lv st σ n nc ns => ia_if (Nat.beq len 2) (ia_pi ih (ia_E (Int8.ofInt k).toInt32) (Nat.add pc 2) lv st σ n nc ns)
noncomputable def ia_d_sipush (k : Int) : ia_T := fun call y len ih pc lv st σ n nc ns => ia_if (Nat.beq len 3) (ia_pi ih (ia_E (Int16.ofInt k).toInt32) (Nat.add pc 3) lv st σ n nc ns)
noncomputable def ia_d_lconst (k : Fin 2) : ia_T := fun call y len ih pc lv st σ n nc ns => ia_if (Nat.beq len 1) (ia_frc k.val (fun k => ia_nx ih (Nat.add pc 1) lv (.inr (.inl k) :: st) σ n nc ns))
noncomputable def ia_d_iload_n (k : Fin 4) : ia_T := fun call y len ih pc lv st σ n nc ns => ia_if (Nat.beq len 1) (ia_ld 0 k.val 1 ih pc lv st σ n nc ns)
noncomputable def ia_d_iload (k : Nat) : ia_T := fun call y len ih pc lv st σ n nc ns => ia_if (Nat.beq len 2) (ia_ld 0 k 2 ih pc lv st σ n nc ns)
noncomputable def ia_d_lload_n (k : Fin 4) : ia_T := fun call y len ih pc lv st σ n nc ns => ia_if (Nat.beq len 1) (ia_ld 1 k.val 1 ih pc lv st σ n nc ns)
noncomputable def ia_d_aload_n (k : Fin 4) : ia_T := fun call y len ih pc lv st σ n nc ns => ia_if (Nat.beq len 1) (ia_ld 2 k.val 1 ih pc lv st σ n nc ns)
noncomputable def ia_d_aload (k : Nat) : ia_T := fun call y len ih pc lv st σ n nc ns => ia_if (Nat.beq len 2) (ia_ld 2 k 2 ih pc lv st σ n nc ns)
noncomputable def ia_d_istore_n (k : Fin 4) : ia_T := fun call y len ih pc lv st σ n nc ns => ia_if (Nat.beq len 1 && Nat.blt k.val (ia_maxL y)) (ia_sto 0 k.val 1 ih pc lv st σ n nc ns)
noncomputable def ia_d_istore (k : Nat) : ia_T := fun call y len ih pc lv st σ n nc ns => ia_if (Nat.beq len 2 && Nat.blt k (ia_maxL y)) (ia_sto 0 k 2 ih pc lv st σ n nc ns)
noncomputable def ia_d_astore_n (k : Fin 4) : ia_T := fun call y len ih pc lv st σ n nc ns => ia_if (Nat.beq len 1 && Nat.blt k.val (ia_maxL y)) (ia_sto 2 k.val 1 ih pc lv st σ n nc ns)
noncomputable def ia_d_lstore_n (k : Fin 4) : ia_T := fun call y len ih pc lv st σ n nc ns => ia_if (Nat.beq len 1 && Nat.blt (Nat.succ k.val) (ia_maxL y)) (ia_stl k.val 1 ih pc lv st σ n nc ns)
noncomputable def ia_d_iinc (k : Nat) (d : Int) : ia_T := fun call y len ih pc lv st σ n nc ns => ia_if (Nat.beq len 3 && Nat.blt k (ia_maxL y)) (match ia_at lv k with
    | some (some (.inl a)) => ia_if (Nat.beq a.1 a.2) (ia_frc (Nat.mod (Nat.add (Nat.add a.1 (ia_E (Int32.ofInt d))) 2147483648) 4294967296) (fun r => ia_if (ia_nl lv k) (ia_setK lv k (some (.inl (r, r))) (fun lv => ia_nx ih (Nat.add pc 3) lv st σ n nc ns))))
    | _ => none)
noncomputable def ia_d_iadd : ia_T := fun call y len ih pc lv st σ n nc ns => ia_if (Nat.beq len 1) (ia_bin (fun a b => Nat.mod (Nat.add (Nat.add a b) 2147483648) 4294967296) ih pc lv st σ n nc ns)
noncomputable def ia_d_isub : ia_T := fun call y len ih pc lv st σ n nc ns => ia_if (Nat.beq len 1) (ia_bin (fun a b => Nat.mod (Nat.sub (Nat.add a 6442450944) b) 4294967296) ih pc lv st σ n nc ns)
noncomputable def ia_d_imul : ia_T := fun call y len ih pc lv st σ n nc ns => ia_if (Nat.beq len 1) (ia_bin (ia_op (fun x y => x * y)) ih pc lv st σ n nc ns)
noncomputable def ia_d_iand : ia_T := fun call y len ih pc lv st σ n nc ns => ia_if (Nat.beq len 1) (ia_bin (ia_op (fun x y => x &&& y)) ih pc lv st σ n nc ns)
noncomputable def ia_d_ishl : ia_T := fun call y len ih pc lv st σ n nc ns => ia_if (Nat.beq len 1) (ia_bin (ia_op (fun x y => x <<< (y &&& 31))) ih pc lv st σ n nc ns)
noncomputable def ia_d_ishr : ia_T := fun call y len ih pc lv st σ n nc ns => ia_if (Nat.beq len 1) (ia_bin (ia_op (fun x y => x >>> (y &&& 31))) ih pc lv st σ n nc ns)
noncomputable def ia_d_iushr : ia_T := fun call y len ih pc lv st σ n nc ns => ia_if (Nat.beq len 1) (ia_bin (ia_op (fun x y => (x.toUInt32 >>> (y.toUInt32 &&& Int32.toUInt32 31)).toInt32)) ih pc lv st σ n nc ns)
noncomputable def ia_d_irem : ia_T := fun call y len ih pc lv st σ n nc ns => ia_if (Nat.beq len 1) (match st with
    | .inl b :: _ => ia_if (Nat.beq b.1 b.2 && !(Nat.beq b.1 2147483648)) (ia_bin (ia_op (fun x y => x - x / y * y)) ih pc lv st σ n nc ns)
    | _ => none)
noncomputable def ia_d_i2b : ia_T := fun call y len ih pc lv st σ n nc ns => ia_if (Nat.beq len 1) (ia_un (fun a => ia_E (ia_D a).toInt8.toInt32) ih pc lv st σ n nc ns)
noncomputable def ia_d_i2l : ia_T := fun call y len ih pc lv st σ n nc ns => ia_if (Nat.beq len 1) (match st with
    | .inl a :: t => ia_if (Nat.beq a.1 a.2) (ia_frc (ia_D a.1).toInt64.toBitVec.toNat (fun r => ia_nx ih (Nat.add pc 1) lv (.inr (.inl r) :: t) σ n nc ns))
    | _ => none)
noncomputable def ia_d_ladd : ia_T := fun call y len ih pc lv st σ n nc ns => ia_if (Nat.beq len 1) (match st with
    | .inr (.inl b) :: .inr (.inl a) :: t => ia_frc (Nat.mod (Nat.add a b) 18446744073709551616) (fun r => ia_nx ih (Nat.add pc 1) lv (.inr (.inl r) :: t) σ n nc ns)
    | _ => none)
noncomputable def ia_d_lmul : ia_T := fun call y len ih pc lv st σ n nc ns => ia_if (Nat.beq len 1) (match st with
    | .inr (.inl b) :: .inr (.inl a) :: t => ia_frc (Nat.mod (Nat.mul a b) 18446744073709551616) (fun r => ia_nx ih (Nat.add pc 1) lv (.inr (.inl r) :: t) σ n nc ns)
    | _ => none)
noncomputable def ia_d_dup : ia_T := fun call y len ih pc lv st σ n nc ns => ia_if (Nat.beq len 1) (match st with
    | a :: t => ia_if (Nat.beq (ia_cat a) 1) (ia_nx ih (Nat.add pc 1) lv (a :: a :: t) σ n nc ns)
    | _ => none)
noncomputable def ia_d_dup2 : ia_T := fun call y len ih pc lv st σ n nc ns => ia_if (Nat.beq len 1) (match st with
    | a :: b :: t => ia_if (Nat.beq (ia_cat a) 1 && Nat.beq (ia_cat b) 1) (ia_nx ih (Nat.add pc 1) lv (a :: b :: a :: b :: t) σ n nc ns)
    | _ => none)
noncomputable def ia_d_pop : ia_T := fun call y len ih pc lv st σ n nc ns => ia_if (Nat.beq len 1) (match st with
    | a :: t => ia_if (Nat.beq (ia_cat a) 1) (ia_nx ih (Nat.add pc 1) lv t σ n nc ns)
    | _ => none)
noncomputable def ia_d_ifCond (c : ClassFile.Cond) (o : Int) : ia_T := fun call y len ih pc lv st σ n nc ns => ia_if (Nat.beq len 3) (match st with
    | .inl a :: t => ia_br (ia_cmp c a (2147483648, 2147483648)) o ih pc lv t σ n nc ns
    | _ => none)
noncomputable def ia_d_if_icmp (c : ClassFile.Cond) (o : Int) : ia_T := fun call y len ih pc lv st σ n nc ns => ia_if (Nat.beq len 3) (match st with
    | .inl b :: .inl a :: t => ia_br (ia_cmp c a b) o ih pc lv t σ n nc ns
    | _ => none)
noncomputable def ia_d_goto (o : Int) : ia_T := fun call y len ih pc lv st σ n nc ns => ia_if (Nat.beq len 3) (ia_jmp o ih pc lv st σ n nc ns)
noncomputable def ia_d_tableswitch (d : Int) (lo : Int) (hi : Int) (os : Array Int) : ia_T := fun call y len ih pc lv st σ n nc ns => ia_sw d lo hi os ih pc lv st σ n nc ns
noncomputable def ia_d_getfield (k : Nat) : ia_T := fun call y len ih pc lv st σ n nc ns => ia_if (Nat.beq len 3) (ia_frc k (fun k => ia_gf y k ih pc lv st σ n nc ns))
noncomputable def ia_d_putfield (k : Nat) : ia_T := fun call y len ih pc lv st σ n nc ns => ia_if (Nat.beq len 3) (ia_frc k (fun k => ia_pf y k ih pc lv st σ n nc ns))
noncomputable def ia_d_getstatic (k : Nat) : ia_T := fun call y len ih pc lv st σ n nc ns => ia_if (Nat.beq len 3) (ia_frc k (fun k => ia_gs y k ih pc lv st σ n nc ns))
noncomputable def ia_d_i2c : ia_T := fun call y len ih pc lv st σ n nc ns => ia_if (Nat.beq len 1) (ia_un (fun a => ia_E ((ia_D a).toUInt32 % 65536).toInt32) ih pc lv st σ n nc ns)
noncomputable def ia_d_iaload : ia_T := fun call y len ih pc lv st σ n nc ns => ia_if (Nat.beq len 1) (ia_al 50 ih pc lv st σ n nc ns)
noncomputable def ia_d_laload : ia_T := fun call y len ih pc lv st σ n nc ns => ia_if (Nat.beq len 1) (ia_al 51 ih pc lv st σ n nc ns)
noncomputable def ia_d_baload : ia_T := fun call y len ih pc lv st σ n nc ns => ia_if (Nat.beq len 1) (ia_alb ih pc lv st σ n nc ns)
noncomputable def ia_d_aaload : ia_T := fun call y len ih pc lv st σ n nc ns => ia_if (Nat.beq len 1) (match st with
    | _ :: .inr (.inr (.inl (some k))) :: _ => (match ia_get2 σ k with
      | some c => (match Nat.beq c.1 54 with
        | true => ia_al 54 ih pc lv st σ n nc ns
        | false => ia_al 55 ih pc lv st σ n nc ns)
      | none => none)
    | _ => none)
noncomputable def ia_d_iastore : ia_T := fun call y len ih pc lv st σ n nc ns => ia_if (Nat.beq len 1) (ia_as 50 ia_gi ih pc lv st σ n nc ns)
noncomputable def ia_d_lastore : ia_T := fun call y len ih pc lv st σ n nc ns => ia_if (Nat.beq len 1) (ia_as 51 ia_gl ih pc lv st σ n nc ns)
noncomputable def ia_d_bastore : ia_T := fun call y len ih pc lv st σ n nc ns => ia_if (Nat.beq len 1) (match st with
    | _ :: _ :: .inr (.inr (.inl (some k))) :: _ => (match ia_get2 σ k with
      | some c => (match Nat.beq c.1 52 with
        | true => ia_as 52 (ia_gn .byte) ih pc lv st σ n nc ns
        | false => ia_as 53 (ia_gn .boolean) ih pc lv st σ n nc ns)
      | none => none)
    | _ => none)
noncomputable def ia_d_aastore : ia_T := fun call y len ih pc lv st σ n nc ns => ia_if (Nat.beq len 1) (match st with
    | _ :: _ :: .inr (.inr (.inl (some k))) :: _ => (match ia_get2 σ k with
      | some c => (match Nat.beq c.1 54 with
        | true => ia_as 54 (ia_gr σ 3) ih pc lv st σ n nc ns
        | false => ia_as 55 (ia_gr σ 7) ih pc lv st σ n nc ns)
      | none => none)
    | _ => none)
noncomputable def ia_d_arraylength : ia_T := fun call y len ih pc lv st σ n nc ns => ia_if (Nat.beq len 1) (ia_len ih pc lv st σ n nc ns)
noncomputable def ia_d_new (k : Nat) : ia_T := fun call y len ih pc lv st σ n nc ns => ia_if (Nat.beq len 3) (ia_frc k (fun k => ia_no y k ih pc lv st σ n nc ns))
noncomputable def ia_d_newarray (t : ClassFile.ArrayType) : ia_T := fun call y len ih pc lv st σ n nc ns => ia_if (Nat.beq len 2) (ia_new y t ih pc lv st σ n nc ns)
noncomputable def ia_d_anewarray (k : Nat) : ia_T := fun call y len ih pc lv st σ n nc ns => ia_if (Nat.beq len 3) (ia_frc k (fun k => ia_nr1 y k ih pc lv st σ n nc ns))
noncomputable def ia_d_ldc (k : Nat) : ia_T := fun call y len ih pc lv st σ n nc ns => ia_if (Nat.beq len 2) (ia_frc k (fun k => ia_cst y k 2 ih pc lv st σ n nc ns))
noncomputable def ia_d_ldc_w (k : Nat) : ia_T := fun call y len ih pc lv st σ n nc ns => ia_if (Nat.beq len 3) (ia_frc k (fun k => ia_cst y k 3 ih pc lv st σ n nc ns))
noncomputable def ia_d_ldc2_w (k : Nat) : ia_T := fun call y len ih pc lv st σ n nc ns => ia_if (Nat.beq len 3) (ia_frc k (fun k => ia_csl y k ih pc lv st σ n nc ns))
noncomputable def ia_d_invokevirtual (k : Nat) : ia_T := fun call y len ih pc lv st σ n nc ns => ia_if (Nat.beq len 3) (ia_frc k (fun k => ia_inv call y 0 k ih pc lv st σ n nc ns))
noncomputable def ia_d_invokestatic (k : Nat) : ia_T := fun call y len ih pc lv st σ n nc ns => ia_if (Nat.beq len 3) (ia_frc k (fun k => ia_inv call y 1 k ih pc lv st σ n nc ns))
noncomputable def ia_d_invokespecial (k : Nat) : ia_T := fun call y len ih pc lv st σ n nc ns => ia_if (Nat.beq len 3) (ia_frc k (fun k => ia_inv call y 2 k ih pc lv st σ n nc ns))
noncomputable def ia_d_ireturn : ia_T := fun call y len ih pc lv st σ n nc ns => ia_if (Nat.beq len 1) (ia_rt y st σ n)
noncomputable def ia_d_return_ : ia_T := fun call y len ih pc lv st σ n nc ns => ia_if (Nat.beq len 1) (ia_rv y st σ n)
noncomputable def ia_d_idiv : ia_T := fun call y len ih pc lv st σ n nc ns => ia_if (Nat.beq len 1) (match st with
    | .inl b :: _ => ia_if (Nat.beq b.1 b.2 && !(Nat.beq b.1 2147483648)) (ia_bin (ia_op (fun x y => x / y)) ih pc lv st σ n nc ns)
    | _ => none)
noncomputable def ia_d_ior : ia_T := fun call y len ih pc lv st σ n nc ns => ia_if (Nat.beq len 1) (ia_bin (ia_op (fun x y => x ||| y)) ih pc lv st σ n nc ns)
noncomputable def ia_d_ixor : ia_T := fun call y len ih pc lv st σ n nc ns => ia_if (Nat.beq len 1) (ia_bin (ia_op (fun x y => x ^^^ y)) ih pc lv st σ n nc ns)
noncomputable def ia_d_lcmp : ia_T := fun call y len ih pc lv st σ n nc ns => ia_if (Nat.beq len 1) (match st with
    | .inr (.inl b) :: .inr (.inl a) :: t => ia_pi ih (ia_E (lg_cmp (Int64.ofNat a) (Int64.ofNat b))) (Nat.add pc 1) lv t σ n nc ns
    | _ => none)
noncomputable def ia_d_lor : ia_T := fun call y len ih pc lv st σ n nc ns => ia_if (Nat.beq len 1) (match st with
    | .inr (.inl b) :: .inr (.inl a) :: t => ia_frc (Int64.ofNat a ||| Int64.ofNat b).toBitVec.toNat (fun r => ia_nx ih (Nat.add pc 1) lv (.inr (.inl r) :: t) σ n nc ns)
    | _ => none)
noncomputable def ia_d_lshl : ia_T := fun call y len ih pc lv st σ n nc ns => ia_if (Nat.beq len 1) (match st with
    | .inl b :: .inr (.inl a) :: t => ia_if (Nat.beq b.1 b.2) (ia_frc (Int64.ofNat a <<< ((ia_D b.1).toInt64 &&& 63)).toBitVec.toNat (fun r => ia_nx ih (Nat.add pc 1) lv (.inr (.inl r) :: t) σ n nc ns))
    | _ => none)
noncomputable def ia_d_astore (k : Nat) : ia_T := fun call y len ih pc lv st σ n nc ns => ia_if (Nat.beq len 2 && Nat.blt k (ia_maxL y)) (ia_sto 2 k 2 ih pc lv st σ n nc ns)
def ia_srt (ps : List (Int × Int)) : Bool := (ps.zip (ps.drop 1)).all (fun (a, next) => a.1 < next.1)
noncomputable def ia_lks (df : Int) (ps : Array (Int × Int)) (ih : ia_K) (pc : Nat) (lv : List (Option ia_V)) (st : List ia_V) (σ : ia_H) (n nc ns : Nat) : Option ia_O := match st with
    | .inl a :: t => ia_if (Nat.beq a.1 a.2 && ia_srt ps.toList) (ia_jmp (Op.lookupswitch.offset ps.toList df (Int.ofNat a.1 - 2147483648)) ih pc lv t σ n nc ns)
    | _ => none
noncomputable def ia_d_lookupswitch (df : Int) (ps : Array (Int × Int)) : ia_T := fun call y len ih pc lv st σ n nc ns => ia_lks df ps ih pc lv st σ n nc ns
noncomputable def ia_rl (y : Nat) (st : List ia_V) (σ : ia_H) (n : Nat) : Option ia_O := match st with
  | [.inr (.inl a)] => (match ia_ret y with
    | some .long => some (some (.inr (.inl a)), σ, n)
    | _ => none)
  | _ => none
noncomputable def ia_d_lreturn : ia_T := fun call y len ih pc lv st σ n nc ns => ia_if (Nat.beq len 1) (ia_rl y st σ n)
noncomputable def ia_do (i : Instr) : ia_T := @Instr.rec (fun _ => ia_T) ia_d_aaload ia_d_aastore ia_d_none ia_d_aload ia_d_aload_n ia_d_anewarray ia_d_none ia_d_arraylength ia_d_astore ia_d_astore_n ia_d_none ia_d_baload ia_d_bastore ia_d_bipush ia_d_none ia_d_none (fun _ => ia_d_none) ia_d_none ia_d_none ia_d_none ia_d_none ia_d_none ia_d_none (fun _ => ia_d_none) (fun _ => ia_d_none) ia_d_none (fun _ => ia_d_none) (fun _ => ia_d_none) ia_d_none ia_d_none ia_d_none ia_d_none (fun _ => ia_d_none) (fun _ => ia_d_none) ia_d_none ia_d_dup ia_d_none ia_d_none ia_d_dup2 ia_d_none ia_d_none ia_d_none ia_d_none ia_d_none ia_d_none ia_d_none ia_d_none (fun _ => ia_d_none) (fun _ => ia_d_none) ia_d_none (fun _ => ia_d_none) (fun _ => ia_d_none) ia_d_none ia_d_none ia_d_none ia_d_none (fun _ => ia_d_none) (fun _ => ia_d_none) ia_d_none ia_d_getfield ia_d_getstatic ia_d_goto (fun _ => ia_d_none) ia_d_i2b ia_d_i2c ia_d_none ia_d_none ia_d_i2l ia_d_none ia_d_iadd ia_d_iaload ia_d_iand ia_d_iastore ia_d_iconst ia_d_idiv (fun _ _ => ia_d_none) ia_d_if_icmp ia_d_ifCond (fun _ => ia_d_none) (fun _ => ia_d_none) ia_d_iinc ia_d_iload ia_d_iload_n ia_d_imul ia_d_none (fun _ => ia_d_none) (fun _ => ia_d_none) (fun _ _ => ia_d_none) ia_d_invokespecial ia_d_invokestatic ia_d_invokevirtual ia_d_ior ia_d_irem ia_d_ireturn ia_d_ishl ia_d_ishr ia_d_istore ia_d_istore_n ia_d_isub ia_d_iushr ia_d_ixor (fun _ => ia_d_none) (fun _ => ia_d_none) ia_d_none ia_d_none ia_d_none ia_d_ladd ia_d_laload ia_d_none ia_d_lastore ia_d_lcmp ia_d_lconst ia_d_ldc ia_d_ldc_w ia_d_ldc2_w ia_d_none (fun _ => ia_d_none) ia_d_lload_n ia_d_lmul ia_d_none ia_d_lookupswitch ia_d_lor ia_d_none ia_d_lreturn ia_d_lshl ia_d_none (fun _ => ia_d_none) ia_d_lstore_n ia_d_none ia_d_none ia_d_none ia_d_none ia_d_none (fun _ _ => ia_d_none) ia_d_new ia_d_newarray ia_d_none ia_d_pop ia_d_none ia_d_putfield (fun _ => ia_d_none) (fun _ => ia_d_none) ia_d_return_ ia_d_none ia_d_none ia_d_sipush ia_d_none ia_d_tableswitch i
/-- decode of method y's code, sooner -/
noncomputable def fdd (y pc : Nat) : Except DecodeError (Instr × Nat) := fd (ia_code y) (fd_T y).1 (fd_T y).2 pc
set_option maxRecDepth 100000 in
theorem fdd_ck : (List.range 291).all (fun y => fd_ck (ia_code y).data.toList (fd_T y).1 (fd_T y).2) = true := by decide +kernel
theorem fdd_eq (y pc : Nat) : fdd y pc = decode (ia_code y) pc := by
  refine fd_eq (fun hz => ?_)
  by_cases hy : y < 291
  · exact fd_H_of (List.all_eq_true.mp fdd_ck y (List.mem_range.mpr hy))
  · exfalso
    have e : fd_T y = (0, 0) := by
      unfold fd_T
      rw [show Nat.blt y 291 = false from by cases h : Nat.blt y 291 with | true => exact absurd (fd_bl h) hy | false => rfl]
      rfl
    rw [e] at hz
    exact absurd hz (Nat.lt_irrefl _)
theorem fdd_d {y pc : Nat} {r : Except DecodeError (Instr × Nat)} (h : fdd y pc = r) : decode (ia_code y) pc = r := (fdd_eq y pc).symm.trans h
noncomputable def ia_step (call : Nat → List ia_V → ia_H → Nat → Option ia_O) (y : Nat) (ih : ia_K) (pc : Nat) (lv : List (Option ia_V)) (st : List ia_V) (σ : ia_H) (n nc ns : Nat) : Option ia_O := match fdd y pc with
  | .ok q => ia_do q.1 call y q.2 ih pc lv st σ n nc ns
  | .error _ => none
noncomputable def ia_x (call : Nat → List ia_V → ia_H → Nat → Option ia_O) (y fuel : Nat) : ia_K := Nat.rec (motive := fun _ => ia_K) (fun _ _ _ _ _ _ _ => none) (fun _ ih => ia_step call y ih) fuel
noncomputable def ia_call (d : Nat) : Nat → List ia_V → ia_H → Nat → Option ia_O := Nat.rec (motive := fun _ => Nat → List ia_V → ia_H → Nat → Option ia_O) (fun _ _ _ _ => none) (fun _ ih y as σ n => ia_if (Nat.ble (ia_sz as) (ia_maxL y)) (ia_x ih y 100000 0 (ia_pad (ia_maxL y) (ia_ent as)) [] σ n 0 0)) d
/-- an empty world: room for 256 cells -/
noncomputable def ia_w0 : ia_H := List.replicate 16 (List.replicate 16 (99, 0, []))
