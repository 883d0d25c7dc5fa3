/-! ## instructions over the world -/
section IAH
variable {p : Program} {l : Launch} {e : Env} {R : Room} {s : State} {m : MethodId} {args : Array Value} {below : List Frame} {meth : Method} {c : Code} {Q : State → Prop}
variable {D : va_G} {sa : Nat × Nat} {A : Nat → Prop} {as0 : List Nat} {nL y pc : Nat} {lv : List (Option ia_V)} {st : List ia_V} {σ : ia_H} {n nc ns : Nat} {ih : ia_K} {out : ia_O} {i d : Nat}
/-- what a method's body knows of the machine -/
def ia_X (p : Program) (R : Room) (s : State) (m : MethodId) (args : Array Value) (meth : Method) (c : Code) (y d : Nat) : Prop :=
  p.tables.exec = Jvm.exec ∧ c.code = ia_code y ∧ c.maxLocals = ia_maxL y ∧ s.vm.findClass (ia_own (ia_cls y)) = some m.cls ∧ (∀ w ∈ ia_cw y :: ia_TB, w.before args s = true) ∧ meth.locks = false ∧ meth.sig.returnType = ia_ret y ∧ R.frames = d + 1 ∧ R.locals = 100 * (d + 1) ∧ R.cells = ia_mc y ∧ R.slots = ia_ms y ∧ ((ia_nm y).name = "<init>" → meth.name = "<init>") ∧ ia_okM y = true
def ia_tx : String := "span winter person food meeting debt eats ails mends meet hour or and not ill owes like in date hunger coin number "
noncomputable def ia_by : List Int32 := ia_chars.map ia_D
/-- a static array of ints that nobody writes -/
def ia_Ar (nm : String) (l : List Int) (A : Nat → Prop) (U : State) (H : Heap) : Prop := ∃ t : Nat, va_Z "HungerDays$Plates" nm "[I" (.ref t) A U H ∧ va_T .int t l.length (fun j => .int (Int32.ofInt (l.getD j 0))) A U H
def ia_arA : List Int := [0, 1, 2, 3, 4, 5, 6, 8, 9, 12, 16, 17, 18, 20, 21, 24, 32, 33, 36, 48, 64, 65, 66, 68, 69, 72, 80, 81, 84, 96, 128, 129, 132, 144, 192]
def ia_arH : List Int := [1, 4, 10, 20, 35]
/-- what is so of the machine beside the world: links of nest mates, classes of arrays, the String, two statics, two static arrays -/
def ia_N (sa : Nat × Nat) (A : Nat → Prop) (U : State) (H : Heap) : Prop :=
  (∀ w ∈ ia_Np, va_Nw (ia_w w) U) ∧ va_AO RX3 U ∧ va_AO RX7 U ∧ vk_R RX5 19 ia_tx sa.1 U ∧ vk_S 1 [115] [ia_by] (fun _ => sa.1) (fun _ => sa.2) A U H ∧ va_Z "java/lang/String" "COMPACT_STRINGS" "Z" (.int 1) A U H ∧ va_Zq "jdk/internal/util/Preconditions" "SIOOBE_FORMATTER" "Ljava/util/function/BiFunction;" A U H ∧ ia_Ar "ALL" ia_arA A U H ∧ ia_Ar "HOW_MANY" ia_arH A U H
theorem ia_X.hts (X : ia_X p R s m args meth c y d) {w : Cond} (h : w ∈ ia_TB) : w.before args s = true := X.2.2.2.2.1 w (List.mem_cons_of_mem _ h)
theorem ia_hts (X : ia_X p R s m args meth c y d) : ∀ w ∈ ia_TB, w.before args s = true := fun _ h => X.hts h
/-- the values of a new object's fields -/
noncomputable def ia_zv (a : ia_V) : Value := match a with
  | .inl _ => .int 0
  | .inr (.inl _) => .long 0
  | .inr (.inr _) => .null
noncomputable def ia_zvs (ci : Nat) : List Value := ((ia_Fs.getD ci (0, [])).2.flatten).map ia_zv
noncomputable def ia_zz (a : ia_V) (v : Option Value) : Bool := match a, v with
  | .inl q, some (.int x) => decide (x = 0) && (Nat.beq q.1 2147483648 && Nat.beq q.2 2147483648)
  | .inr (.inl z), some (.long x) => decide (x = 0) && Nat.beq z 0
  | .inr (.inr (.inl none)), some .null => true
  | _, _ => false
noncomputable def ia_zc (l : List (List ia_V)) (fs : List Value) : Bool := Nat.ble l.length 4 && (List.range 64).all (fun k => match ia_get2 l k with
  | some a => ia_zz a fs[k]?
  | none => true)
theorem ia_zz_ok {a : ia_V} {w : Option Value} (h : ia_zz a w = true) (sa : Nat × Nat) (ad : List Nat) : ∃ v, w = some v ∧ ia_v sa ad a v := by
  unfold ia_zz at h
  split at h
  · simp only [Bool.and_eq_true, decide_eq_true_eq] at h
    obtain ⟨rfl, h2, h3⟩ := h
    have h2 := ia_beq h2
    have h3 := ia_beq h3
    exact ⟨_, rfl, 0, rfl, by rw [ia_E0]; omega, by rw [ia_E0]; omega⟩
  · simp only [Bool.and_eq_true, decide_eq_true_eq] at h
    obtain ⟨rfl, h2⟩ := h
    have h2 := ia_beq h2
    subst h2
    exact ⟨_, rfl, rfl⟩
  · exact ⟨_, rfl, rfl⟩
  · cases h
theorem ia_zvs_ok {l : List (List ia_V)} {fs : List Value} {sa : Nat × Nat} {ad : List Nat} {k : Nat} {a : ia_V} (hz : ia_zc l fs = true) (h : ia_get2 l k = some a) : ∃ v, fs[k]? = some v ∧ ia_v sa ad a v := by
  unfold ia_zc at hz
  rw [Bool.and_eq_true] at hz
  have hl := ia_ble hz.1
  obtain ⟨c, h1, -⟩ := ia_get2_eq h
  have hlt := (List.getElem?_eq_some_iff.mp h1).1
  have hk := List.all_eq_true.mp hz.2 k (List.mem_range.mpr (by omega))
  rw [h] at hk
  exact ia_zz_ok hk sa ad
set_option maxRecDepth 100000 in
/-- a class's types, names, new fields: by its number -/
theorem ia_cty {ci : Nat} {r : vw_C} (hc : vwCl[ci]? = some r) : ∃ ty : Nat → FieldType, (∀ k, k < r.2.2 → parseFieldDescriptor (r.2.1 k).2.2.1 = some (ty k)) ∧ (∀ a, a < r.2.2 → ∀ b, b < r.2.2 → a ≠ b → (r.2.1 a).2.1 ≠ (r.2.1 b).2.1) ∧ ∃ q, ia_Fs[ci]? = some q ∧ q.1 = r.2.2 ∧ ∃ fs : List Value, (∀ j, j < r.2.2 → defaultValue (ty j) = vp_V fs j) ∧ ∀ (sa : Nat × Nat) (ad : List Nat) (k : Nat) (a : ia_V), ia_get2 q.2 k = some a → ∃ v, fs[k]? = some v ∧ ia_v sa ad a v := by
  match ci, hc with
  | 0, hc => cases hc; exact ⟨tyX0, tyX0_ok, nmX0, _, rfl, rfl, ia_zvs 0, by decide +kernel, fun _ _ _ _ h => ia_zvs_ok (by decide +kernel) h⟩
  | 1, hc => cases hc; exact ⟨tyX1, tyX1_ok, nmX1, _, rfl, rfl, ia_zvs 1, by decide +kernel, fun _ _ _ _ h => ia_zvs_ok (by decide +kernel) h⟩
  | 2, hc => cases hc; exact ⟨tyX2, tyX2_ok, nmX2, _, rfl, rfl, ia_zvs 2, by decide +kernel, fun _ _ _ _ h => ia_zvs_ok (by decide +kernel) h⟩
  | 3, hc => cases hc; exact ⟨tyX3, tyX3_ok, nmX3, _, rfl, rfl, ia_zvs 3, by decide +kernel, fun _ _ _ _ h => ia_zvs_ok (by decide +kernel) h⟩
  | 4, hc => cases hc; exact ⟨tyX4, tyX4_ok, nmX4, _, rfl, rfl, ia_zvs 4, by decide +kernel, fun _ _ _ _ h => ia_zvs_ok (by decide +kernel) h⟩
  | 5, hc => cases hc; exact ⟨tyX5, tyX5_ok, nmX5, _, rfl, rfl, ia_zvs 5, by decide +kernel, fun _ _ _ _ h => ia_zvs_ok (by decide +kernel) h⟩
  | 6, hc => cases hc; exact ⟨tyX6, tyX6_ok, nmX6, _, rfl, rfl, ia_zvs 6, by decide +kernel, fun _ _ _ _ h => ia_zvs_ok (by decide +kernel) h⟩
  | 7, hc => cases hc; exact ⟨tyX7, tyX7_ok, nmX7, _, rfl, rfl, ia_zvs 7, by decide +kernel, fun _ _ _ _ h => ia_zvs_ok (by decide +kernel) h⟩
  | 8, hc => cases hc; exact ⟨tyX8, tyX8_ok, nmX8, _, rfl, rfl, ia_zvs 8, by decide +kernel, fun _ _ _ _ h => ia_zvs_ok (by decide +kernel) h⟩
  | 9, hc => cases hc; exact ⟨tyX9, tyX9_ok, nmX9, _, rfl, rfl, ia_zvs 9, by decide +kernel, fun _ _ _ _ h => ia_zvs_ok (by decide +kernel) h⟩
  | 10, hc => cases hc; exact ⟨tyX10, tyX10_ok, nmX10, _, rfl, rfl, ia_zvs 10, by decide +kernel, fun _ _ _ _ h => ia_zvs_ok (by decide +kernel) h⟩
  | 11, hc => cases hc; exact ⟨tyX11, tyX11_ok, nmX11, _, rfl, rfl, ia_zvs 11, by decide +kernel, fun _ _ _ _ h => ia_zvs_ok (by decide +kernel) h⟩
  | 12, hc => cases hc; exact ⟨tyX12, tyX12_ok, nmX12, _, rfl, rfl, ia_zvs 12, by decide +kernel, fun _ _ _ _ h => ia_zvs_ok (by decide +kernel) h⟩
  | ci + 13, hc => exact absurd (List.getElem?_eq_some_iff.mp hc).1 (by show ¬ ci + 13 < 13; omega)
theorem ia_s_gf (X : ia_X p R s m args meth c y d) (N : ia_N sa A s s.heap) (hdg : decode (ia_code y) pc = .ok (.getfield i, 3)) (ihk : ia_IH p l e R s m args below meth c Q D sa A as0 nL y ih out) (h : ia_gf y i ih pc lv st σ n nc ns = some out) : ia_WW p l e R s m args below meth c Q D sa A as0 nL y pc lv st σ n nc ns := by
  obtain ⟨hx, hb, hml, hown, hts, -⟩ := id X
  unfold ia_gf at h
  intro H locs ws tys ls l' vst hl hL hSt hK hP hD hS hn hR hxx h1 h2
  split at h
  · rename_i k t
    obtain ⟨_, vt, rfl, ⟨b, hkb, rfl⟩, g3⟩ := hSt
    split at h
    · rename_i ci sl kd pp hpl
      obtain ⟨r, hr, hsl, hlk, -, -, -, -⟩ := ia_ok0 (ia_pl_ok hpl)
      have hci : ci < 13 := (List.getElem?_eq_some_iff.mp hr).1
      split at h
      · rename_i c0 hc0
        obtain ⟨hq, h⟩ := ia_if_eq h
        have hq := ia_beq hq
        split at h
        · rename_i v hv
          rw [ia_nx_eq] at h
          obtain ⟨e0, hw, hc⟩ := hR.at hc0 (by omega) hkb
          obtain ⟨vs, rfl, hvs⟩ := hc.1 (by omega)
          obtain ⟨w, hw1, hw2⟩ := hvs sl v hv
          rw [hq] at hw
          exact va_get (D := D) (ci := ci) (C := r.1) (T := r.2.1) (N := r.2.2) hx hb (ia_hts X) (ia_okC_at hr).1 hown hK hP k hw hr sl hsl (X.hts hlk) (fun _ h9 => h9) hw1 hdg (ihk _ _ _ _ _ _ _ h H locs ws tys ls l' _ hl hL ⟨_, _, rfl, hw2, g3⟩ hK hP hD hS hn hR hxx h1 h2)
        · cases h
      · cases h
    · cases h
  · rename_i t
    obtain ⟨_, vt, rfl, hv0, g3⟩ := hSt
    cases hv0
    obtain ⟨-, hco, hva, -⟩ := N.2.2.2.2.1.1 0 (by decide)
    split at h
    · rename_i hpl
      rw [ia_nx_eq] at h
      exact vk_getf hx hb hva hS hown (X.hts (ia_is_in (ia_pl_ok hpl))) (fun _ h9 => h9) hdg (ihk _ _ _ _ _ _ _ h H locs ws tys ls l' _ hl hL ⟨_, _, rfl, rfl, g3⟩ hK hP hD hS hn hR hxx h1 h2)
    · rename_i hpl
      rw [ia_nx_eq] at h
      exact vk_getf hx hb hco hS hown (X.hts (ia_is_in (ia_pl_ok hpl))) (fun _ h9 => h9) hdg (ihk _ _ _ _ _ _ _ h H locs ws tys ls l' _ hl hL ⟨_, _, rfl, ⟨0, rfl, by rw [ia_E0]; exact Nat.le_refl _, by rw [ia_E0]; exact Nat.le_refl _⟩, g3⟩ hK hP hD hS hn hR hxx h1 h2)
    · cases h
  · cases h
theorem ia_fits {ty : FieldType} {kd ci : Nat} {a : ia_V} {v : Value} {ad : List Nat} (hk : ia_kt kd (some ty) = true) (hf : ia_fit y ci kd a = true) (hv : ia_v sa ad a v) : narrow ty v = v ∧ fits ty v = true := by
  unfold ia_fit at hf
  split at hf
  · rename_i q
    obtain ⟨x, rfl, -⟩ := hv
    cases ty <;> first | exact ⟨rfl, rfl⟩ | (cases hk)
  · rename_i q
    obtain ⟨x, rfl, x1, x2⟩ := hv
    simp only [Bool.and_eq_true, Bool.or_eq_true] at hf
    have hE : ia_E x = q.1 := ia_one (ia_beq hf.1) x1 x2
    have hx : x = 0 ∨ x = 1 := by
      rcases hf.2 with z | z
      · exact Or.inl (ia_E_inj (by rw [hE, ia_beq z]; decide))
      · exact Or.inr (ia_E_inj (by rw [hE, ia_beq z]; decide))
    cases ty <;> first | (rcases hx with rfl | rfl <;> exact ⟨by decide, by decide⟩) | (cases hk)
  · cases hv
    cases ty <;> first | exact ⟨rfl, rfl⟩ | (cases hk)
  · rename_i q
    have hv' : v = .null ∨ ∃ b, v = .ref b := by
      rcases q with (_ | z) | (_ | _ | z)
      · exact Or.inl hv
      · obtain ⟨b, -, rfl⟩ := hv; exact Or.inr ⟨b, rfl⟩
      · exact Or.inr ⟨_, hv⟩
      · exact Or.inr ⟨_, hv⟩
      · exact hv
    cases ty <;> first | (rcases hv' with rfl | ⟨b, rfl⟩ <;> exact ⟨rfl, rfl⟩) | (cases hk)
  · rename_i q
    have hv' : v = .null ∨ ∃ b, v = .ref b := by
      rcases q with (_ | z) | (_ | _ | z)
      · exact Or.inl hv
      · obtain ⟨b, -, rfl⟩ := hv; exact Or.inr ⟨b, rfl⟩
      · exact Or.inr ⟨_, hv⟩
      · exact Or.inr ⟨_, hv⟩
      · exact hv
    cases ty <;> first | (rcases hv' with rfl | ⟨b, rfl⟩ <;> exact ⟨rfl, rfl⟩) | (cases hk)
  · cases hf
theorem ia_s_pf (X : ia_X p R s m args meth c y d) (hdg : decode (ia_code y) pc = .ok (.putfield i, 3)) (ihk : ia_IH p l e R s m args below meth c Q D sa A as0 nL y ih out) (h : ia_pf y i ih pc lv st σ n nc ns = some out) : ia_WW p l e R s m args below meth c Q D sa A as0 nL y pc lv st σ n nc ns := by
  obtain ⟨hx, hb, hml, hown, hts, -, -, -, -, -, -, hini, -⟩ := id X
  unfold ia_pf at h
  intro H locs ws tys ls l' vst hl hL hSt hK hP hD hS hn hR hxx h1 h2
  split at h
  · rename_i v k t
    obtain ⟨w, _, rfl, hv, _, vt, rfl, ⟨b, hkb, rfl⟩, g3⟩ := hSt
    split at h
    · rename_i ci sl kd pp hpl
      obtain ⟨r, hr, hsl, hlk, hfin, hdec, hrown, hkt⟩ := ia_ok0 (ia_pl_ok hpl)
      have hci : ci < 13 := (List.getElem?_eq_some_iff.mp hr).1
      obtain ⟨ty, hty, hnm, -⟩ := ia_cty hr
      split at h
      · rename_i c0 hc0
        obtain ⟨hq, h⟩ := ia_if_eq h
        rw [Bool.and_eq_true, Bool.and_eq_true] at hq
        obtain ⟨hq0, hq2, hq3⟩ := hq
        have hq : Nat.beq c0.1 ci = true ∧ ia_fit y ci kd v = true := ⟨hq0, hq2⟩
        have hq1 := ia_beq hq.1
        rw [ia_set2K_eq, ia_set2K_eq, ia_nx_eq] at h
        obtain ⟨e0, hw, hc⟩ := hR.at hc0 (by omega) hkb
        obtain ⟨vs, rfl, hvs⟩ := hc.1 (by omega)
        rw [hty sl hsl] at hkt
        obtain ⟨f1, f2⟩ := ia_fits hkt hq.2 hv
        have hlen : sl < vs.length := by
          obtain ⟨a9, ha9⟩ := Option.isSome_iff_exists.mp hq3
          obtain ⟨v9, hv9, -⟩ := hvs sl a9 ha9
          exact (List.getElem?_eq_some_iff.mp hv9).1
        have hR2 : ia_R sa tys (ia_set2 σ k (c0.1, c0.2.1, ia_set2 c0.2.2 sl v)) (ws.set k (b, .inr (c0.1, vs.set sl w))) := by
          refine hR.set hw ?_
          refine ⟨fun _ => ⟨vs.set sl w, rfl, fun j a hj => ?_⟩, fun z => absurd z (by show ¬ c0.1 = 50; omega), fun z => absurd z (by show ¬ c0.1 = 51; omega), fun z => absurd z (by show ¬ c0.1 = 52; omega), fun z => absurd z (by show ¬ c0.1 = 53; omega), fun z => absurd z (by show ¬ c0.1 = 54; omega), fun z => absurd z (by show ¬ c0.1 = 55; omega)⟩
          rcases ia_get2_set hj with ⟨rfl, rfl⟩ | ⟨hne, hj'⟩
          · exact ⟨w, List.getElem?_set_self hlen, hv⟩
          · obtain ⟨u, u1, u2⟩ := hvs j a hj'
            exact ⟨u, by rw [List.getElem?_set_ne (fun z => hne z.symm)]; exact u1, u2⟩
        have hfst := ia_fst_set (e := .inr (c0.1, vs.set sl w)) hw
        rw [hq1] at hw hR2 hfst
        have key : ∀ (H1 : Heap) (locs1 : List Loc), va_P D vwCl (ws.set k (b, .inr (ci, vs.set sl w))) H1 → va_D A (ws.set k (b, .inr (ci, vs.set sl w))) → va_S A s.heap H1 locs1 → W p l e R s m args below meth c H1 locs1 nc ns Q (F0 m (pc + 3) ls vt) := fun H1 locs1 hP1 hD1 hS1 =>
          ihk _ _ _ _ _ _ _ h H1 locs1 _ tys ls l' vt hl (by rw [hfst]; exact hL) (by rw [hfst]; exact g3) hK hP1 hD1 hS1 (by rw [List.length_set]; exact hn) (by rw [hq1]; exact hR2) (by rw [hfst]; exact hxx) h1 h2
        by_cases hf4 : 4 ≤ kd
        · have hfin' : (r.2.1 sl).2.2.2 = true := by rw [hfin]; exact Nat.ble_eq_true_of_le hf4
          have hk7 : (ia_cls y = ci ∧ (ia_nm y).name = "<init>") := by
            have hz := hq.2
            unfold ia_fit at hz
            split at hz
            · omega
            · omega
            · omega
            · omega
            · simp only [Bool.and_eq_true, decide_eq_true_eq] at hz
              exact ⟨ia_beq hz.1, hz.2⟩
            · cases hz
          exact va_putF (D := D) (ci := ci) (C := r.1) (T := r.2.1) (N := r.2.2) hx hb (ia_hts X) (ia_okC_at hr).1 ty hty hnm hown hK hP hD hS k hw hr sl hsl (X.hts hlk) (fun _ h9 => h9) hfin' (hini hk7.2) (by rw [hdec, hrown, hk7.1]) (hty sl hsl) f1 f2 hlen hdg key
        · have hfin' : (r.2.1 sl).2.2.2 = false := by
            rw [hfin]
            cases hz : Nat.ble 4 kd with
            | false => rfl
            | true => exact absurd (ia_ble hz) hf4
          exact va_put (D := D) (ci := ci) (C := r.1) (T := r.2.1) (N := r.2.2) hx hb (ia_hts X) (ia_okC_at hr).1 ty hty hnm hown hK hP hD hS k hw hr sl hsl (X.hts hlk) (fun _ h9 => h9) hfin' (hty sl hsl) f1 f2 hlen hdg key
      · cases h
    · cases h
  · cases h
/-! arrays -/
theorem ia_ix_ok {α : Type} {tg k : Nat} {a : Nat × Nat} {f : ia_C → Nat → Option α} {o : α} (h : ia_ix tg σ k a f = some o) : ∃ c0 : ia_C, ia_get2 σ k = some c0 ∧ c0.1 = tg ∧ a.1 = a.2 ∧ 2147483648 ≤ a.1 ∧ a.1 - 2147483648 < c0.2.1 ∧ f c0 (a.1 - 2147483648) = some o := by
  unfold ia_ix at h
  split at h
  · rename_i c0 hc0
    obtain ⟨hq, h⟩ := ia_if_eq h
    simp only [Bool.and_eq_true] at hq
    rw [ia_frc_eq] at h
    exact ⟨c0, hc0, ia_beq hq.1, ia_beq hq.2.1, ia_ble hq.2.2.1, ia_blt hq.2.2.2, h⟩
  · cases h
theorem ia_idx {a : Nat × Nat} {x : Int32} {k : Nat} (e1 : a.1 = a.2) (e2 : 2147483648 ≤ a.1) (e3 : a.1 - 2147483648 < k) (x1 : a.1 ≤ ia_E x) (x2 : ia_E x ≤ a.2) : vp_in x k ∧ x.toNatClampNeg = a.1 - 2147483648 := by
  have hE : ia_E x = a.1 := ia_one e1 x1 x2
  have hc := ia_cl (x := x) (by omega)
  refine ⟨?_, by rw [hc, hE]⟩
  rintro (q | q)
  · rw [ia_neg] at q; omega
  · rw [hc] at q; omega
theorem ia_mem_at {tys : List (ClassId × FieldType)} {q : ClassId × FieldType} (h : q ∈ tys) : ∃ t : Nat, tys[t]? = some q := List.getElem?_of_mem h
theorem ia_s_ald (X : ia_X p R s m args meth c y d) {ins : Instr} {tg : Nat} (hdg : decode (ia_code y) pc = .ok (ins, 1)) (hk : (tg = 50 ∧ ins = .iaload) ∨ (tg = 51 ∧ ins = .laload) ∨ (tg = 53 ∧ ins = .baload) ∨ (tg = 54 ∧ ins = .aaload) ∨ (tg = 55 ∧ ins = .aaload) ∨ (tg = 52 ∧ ins = .baload)) (ihk : ia_IH p l e R s m args below meth c Q D sa A as0 nL y ih out) (h : ia_al tg ih pc lv st σ n nc ns = some out) : ia_WW p l e R s m args below meth c Q D sa A as0 nL y pc lv st σ n nc ns := by
  obtain ⟨hx, hb, hml, hown, hts, -⟩ := id X
  unfold ia_al at h
  intro H locs ws tys ls l' vst hl hL hSt hK hP hD hS hn hR hxx h1 h2
  split at h
  · rename_i a k t
    obtain ⟨_, _, rfl, ⟨x, rfl, x1, x2⟩, _, vt, rfl, ⟨b, hkb, rfl⟩, g3⟩ := hSt
    obtain ⟨c0, hc0, htg, e1, e2, e3, h⟩ := ia_ix_ok h
    obtain ⟨i1, i2⟩ := ia_idx e1 e2 e3 x1 x2
    split at h
    · rename_i v hv
      rw [ia_nx_eq] at h
      obtain ⟨e0, hw, hc⟩ := hR.at hc0 (by omega) hkb
      have go : ∀ w, ia_v sa (ws.map Prod.fst) v w → W p l e R s m args below meth c H locs nc ns Q (F0 m (pc + 1) ls (w :: vt)) := fun w hw2 => ihk _ _ _ _ _ _ _ h H locs ws tys ls l' _ hl hL ⟨_, _, rfl, hw2, g3⟩ hK hP hD hS hn hR hxx h1 h2
      rcases hk with ⟨rfl, rfl⟩ | ⟨rfl, rfl⟩ | ⟨rfl, rfl⟩ | ⟨rfl, rfl⟩ | ⟨rfl, rfl⟩ | ⟨rfl, rfl⟩
      · obtain ⟨cA, f, rfl, hm, hf⟩ := hc.2.1 htg
        obtain ⟨t0, ht0⟩ := ia_mem_at hm
        exact va_iald hx hb hK hP k t0 hw ht0 i1 hdg (go _ (by rw [i2]; exact hf _ _ hv e3))
      · obtain ⟨cA, f, rfl, hm, hf⟩ := hc.2.2.1 htg
        obtain ⟨t0, ht0⟩ := ia_mem_at hm
        exact va_lald hx hb hK hP k t0 hw ht0 i1 hdg (go _ (by rw [i2]; exact hf _ _ hv e3))
      · obtain ⟨cA, f, rfl, hm, hf⟩ := hc.2.2.2.2.1 htg
        obtain ⟨t0, ht0⟩ := ia_mem_at hm
        exact va_zald hx hb hK hP k t0 hw ht0 i1 hdg (go _ (by rw [i2]; exact hf _ _ hv e3))
      · obtain ⟨cA, f, rfl, hm, hf⟩ := hc.2.2.2.2.2.1 htg
        obtain ⟨t0, ht0⟩ := ia_mem_at hm
        exact va_aldq hx hb hK hP k t0 hw ht0 i1 hdg (go _ (by rw [i2]; exact hf _ _ hv e3))
      · obtain ⟨cA, f, rfl, hm, hf⟩ := hc.2.2.2.2.2.2 htg
        obtain ⟨t0, ht0⟩ := ia_mem_at hm
        exact va_aldq hx hb hK hP k t0 hw ht0 i1 hdg (go _ (by rw [i2]; exact hf _ _ hv e3))
      · obtain ⟨cA, f, rfl, hm, hf⟩ := hc.2.2.2.1 htg
        obtain ⟨t0, ht0⟩ := ia_mem_at hm
        exact va_bald hx hb hK hP k t0 hw ht0 i1 hdg (go _ (by rw [i2]; exact hf _ _ hv e3))
    · cases h
  · cases h
theorem ia_nr_ok {ty : FieldType} {q : Nat × Nat} {z : Int32} {ad : List Nat} (z1 : q.1 ≤ ia_E z) (z2 : ia_E z ≤ q.2) : ia_v sa ad (.inl (ia_nr ty q)) (.int (vp_nar ty z)) := by
  unfold ia_nr
  split
  · rename_i hq
    rw [ia_frc_eq, ← ia_one (ia_beq hq) z1 z2, ia_DE]
    exact ia_v_one _ _ _
  · exact ia_v_all _ _ _
theorem ia_gr_ok {ci : Nat} {v0 v : ia_V} (h : ia_gr σ ci v0 = some v) : ∃ (k2 : Nat) (c2 : ia_C), v0 = .inr (.inr (.inl (some k2))) ∧ v = .inr (.inr (.inl (some k2))) ∧ ia_get2 σ k2 = some c2 ∧ c2.1 = ci := by
  unfold ia_gr at h
  split at h
  · rename_i k2
    split at h
    · rename_i c2 hc2
      obtain ⟨hq, h⟩ := ia_if_eq h
      cases h
      exact ⟨k2, c2, rfl, rfl, hc2, ia_beq hq⟩
    · cases h
  · cases h
/-- stores: kinds by the tag -/
theorem ia_s_ast (X : ia_X p R s m args meth c y d) {ins : Instr} {tg : Nat} {g : ia_V → Option ia_V} (hdg : decode (ia_code y) pc = .ok (ins, 1)) (hk : (tg = 50 ∧ ins = .iastore ∧ g = ia_gi) ∨ (tg = 51 ∧ ins = .lastore ∧ g = ia_gl) ∨ (tg = 52 ∧ ins = .bastore ∧ g = ia_gn .byte) ∨ (tg = 53 ∧ ins = .bastore ∧ g = ia_gn .boolean) ∨ (tg = 54 ∧ ins = .aastore ∧ g = ia_gr σ 3) ∨ (tg = 55 ∧ ins = .aastore ∧ g = ia_gr σ 7)) (ihk : ia_IH p l e R s m args below meth c Q D sa A as0 nL y ih out) (h : ia_as tg g ih pc lv st σ n nc ns = some out) : ia_WW p l e R s m args below meth c Q D sa A as0 nL y pc lv st σ n nc ns := by
  obtain ⟨hx, hb, hml, hown, hts, -⟩ := id X
  unfold ia_as at h
  intro H locs ws tys ls l' vst hl hL hSt hK hP hD hS hn hR hxx h1 h2
  split at h
  · rename_i v0 a k t
    obtain ⟨w, _, rfl, hv0, _, _, rfl, ⟨x, rfl, x1, x2⟩, _, vt, rfl, ⟨b, hkb, rfl⟩, g3⟩ := hSt
    split at h
    · rename_i v hgv
      obtain ⟨c0, hc0, htg, e1, e2, e3, h⟩ := ia_ix_ok h
      obtain ⟨i1, i2⟩ := ia_idx e1 e2 e3 x1 x2
      rw [ia_set2K_eq, ia_set2K_eq, ia_nx_eq] at h
      obtain ⟨e0, hw, hc⟩ := hR.at hc0 (by omega) hkb
      have key : ∀ (e1 : va_E), ia_c sa (ws.map Prod.fst) tys (c0.1, c0.2.1, ia_set2 c0.2.2 (a.1 - 2147483648) v) e1 → ∀ (H1 : Heap) (locs1 : List Loc), va_P D vwCl (ws.set k (b, e1)) H1 → va_D A (ws.set k (b, e1)) → va_S A s.heap H1 locs1 → W p l e R s m args below meth c H1 locs1 nc ns Q (F0 m (pc + 1) ls vt) := fun e1 he1 H1 locs1 hP1 hD1 hS1 => by
        have hfst := ia_fst_set (e := e1) hw
        exact ihk _ _ _ _ _ _ _ h H1 locs1 _ tys ls l' vt hl (by rw [hfst]; exact hL) (by rw [hfst]; exact g3) hK hP1 hD1 hS1 (by rw [List.length_set]; exact hn) (hR.set hw he1) (by rw [hfst]; exact hxx) h1 h2
      rcases hk with ⟨rfl, rfl, rfl⟩ | ⟨rfl, rfl, rfl⟩ | ⟨rfl, rfl, rfl⟩ | ⟨rfl, rfl, rfl⟩ | ⟨rfl, rfl, rfl⟩ | ⟨rfl, rfl, rfl⟩
      · obtain ⟨cA, f, rfl, hm, hf⟩ := hc.2.1 htg
        obtain ⟨t0, ht0⟩ := ia_mem_at hm
        rcases v0 with q | z | z <;> cases hgv
        obtain ⟨z, rfl, z1, z2⟩ := hv0
        refine va_iast hx hb hK hP hD hS k t0 hw ht0 i1 hdg (key _ ?_)
        refine ⟨fun q => absurd q (by show ¬ c0.1 < 50; omega), fun _ => ⟨cA, _, rfl, hm, fun j a' hj hlt => ?_⟩, fun q => absurd q (by show ¬ c0.1 = 51; omega), fun q => absurd q (by show ¬ c0.1 = 52; omega), fun q => absurd q (by show ¬ c0.1 = 53; omega), fun q => absurd q (by show ¬ c0.1 = 54; omega), fun q => absurd q (by show ¬ c0.1 = 55; omega)⟩
        rw [i2]
        rcases ia_get2_set hj with ⟨q1, q2⟩ | ⟨hne, hj'⟩
        · rw [q2, q1, pk_us]; exact ⟨z, rfl, z1, z2⟩
        · rw [pk_un hne]; exact hf _ _ hj' hlt
      · obtain ⟨cA, f, rfl, hm, hf⟩ := hc.2.2.1 htg
        obtain ⟨t0, ht0⟩ := ia_mem_at hm
        rcases v0 with q | z | z <;> cases hgv
        cases hv0
        refine va_last hx hb hK hP hD hS k t0 hw ht0 i1 hdg (key _ ?_)
        refine ⟨fun q => absurd q (by show ¬ c0.1 < 50; omega), fun q => absurd q (by show ¬ c0.1 = 50; omega), fun _ => ⟨cA, _, rfl, hm, fun j a' hj hlt => ?_⟩, fun q => absurd q (by show ¬ c0.1 = 52; omega), fun q => absurd q (by show ¬ c0.1 = 53; omega), fun q => absurd q (by show ¬ c0.1 = 54; omega), fun q => absurd q (by show ¬ c0.1 = 55; omega)⟩
        rw [i2]
        rcases ia_get2_set hj with ⟨q1, q2⟩ | ⟨hne, hj'⟩
        · rw [q2, q1, pk_uLs]; rfl
        · rw [pk_uLn hne]; exact hf _ _ hj' hlt
      · obtain ⟨cA, f, rfl, hm, hf⟩ := hc.2.2.2.1 htg
        obtain ⟨t0, ht0⟩ := ia_mem_at hm
        rcases v0 with q | z | z <;> cases hgv
        obtain ⟨z, rfl, z1, z2⟩ := hv0
        refine va_bast hx hb hK hP hD hS k t0 hw ht0 i1 hdg (key _ ?_)
        refine ⟨fun q => absurd q (by show ¬ c0.1 < 50; omega), fun q => absurd q (by show ¬ c0.1 = 50; omega), fun q => absurd q (by show ¬ c0.1 = 51; omega), fun _ => ⟨cA, _, rfl, hm, fun j a' hj hlt => ?_⟩, fun q => absurd q (by show ¬ c0.1 = 53; omega), fun q => absurd q (by show ¬ c0.1 = 54; omega), fun q => absurd q (by show ¬ c0.1 = 55; omega)⟩
        rw [i2]
        rcases ia_get2_set hj with ⟨q1, q2⟩ | ⟨hne, hj'⟩
        · rw [q2, q1, pk_us]; exact ia_nr_ok z1 z2
        · rw [pk_un hne]; exact hf _ _ hj' hlt
      · obtain ⟨cA, f, rfl, hm, hf⟩ := hc.2.2.2.2.1 htg
        obtain ⟨t0, ht0⟩ := ia_mem_at hm
        rcases v0 with q | z | z <;> cases hgv
        obtain ⟨z, rfl, z1, z2⟩ := hv0
        refine va_zast hx hb hK hP hD hS k t0 hw ht0 i1 hdg (key _ ?_)
        refine ⟨fun q => absurd q (by show ¬ c0.1 < 50; omega), fun q => absurd q (by show ¬ c0.1 = 50; omega), fun q => absurd q (by show ¬ c0.1 = 51; omega), fun q => absurd q (by show ¬ c0.1 = 52; omega), fun _ => ⟨cA, _, rfl, hm, fun j a' hj hlt => ?_⟩, fun q => absurd q (by show ¬ c0.1 = 54; omega), fun q => absurd q (by show ¬ c0.1 = 55; omega)⟩
        rw [i2]
        rcases ia_get2_set hj with ⟨q1, q2⟩ | ⟨hne, hj'⟩
        · rw [q2, q1, pk_us]; exact ia_nr_ok z1 z2
        · rw [pk_un hne]; exact hf _ _ hj' hlt
      · obtain ⟨cA, f, rfl, hm, hf⟩ := hc.2.2.2.2.2.1 htg
        obtain ⟨t0, ht0⟩ := ia_mem_at hm
        obtain ⟨k2, c2, rfl, rfl, hk2, hc2⟩ := ia_gr_ok hgv
        obtain ⟨b2, hb2, rfl⟩ := hv0
        obtain ⟨e2', hw2, hcc⟩ := hR.at hk2 (by omega) hb2
        obtain ⟨vs, rfl, -⟩ := hcc.1 (by omega)
        rw [hc2] at hw2
        refine va_astq hx hb hK hP hD hS k t0 k2 3 (r := (RX3, TX3, 4)) hw ht0 hw2 rfl i1 hdg (key _ ?_)
        refine ⟨fun q => absurd q (by show ¬ c0.1 < 50; omega), fun q => absurd q (by show ¬ c0.1 = 50; omega), fun q => absurd q (by show ¬ c0.1 = 51; omega), fun q => absurd q (by show ¬ c0.1 = 52; omega), fun q => absurd q (by show ¬ c0.1 = 53; omega), fun _ => ⟨cA, _, rfl, hm, fun j a' hj hlt => ?_⟩, fun q => absurd q (by show ¬ c0.1 = 55; omega)⟩
        rw [i2]
        rcases ia_get2_set hj with ⟨q1, q2⟩ | ⟨hne, hj'⟩
        · rw [q2, q1, va_up_self]; exact ⟨b2, hb2, rfl⟩
        · rw [va_up_ne _ _ hne]; exact hf _ _ hj' hlt
      · obtain ⟨cA, f, rfl, hm, hf⟩ := hc.2.2.2.2.2.2 htg
        obtain ⟨t0, ht0⟩ := ia_mem_at hm
        obtain ⟨k2, c2, rfl, rfl, hk2, hc2⟩ := ia_gr_ok hgv
        obtain ⟨b2, hb2, rfl⟩ := hv0
        obtain ⟨e2', hw2, hcc⟩ := hR.at hk2 (by omega) hb2
        obtain ⟨vs, rfl, -⟩ := hcc.1 (by omega)
        rw [hc2] at hw2
        refine va_astq hx hb hK hP hD hS k t0 k2 7 (r := (RX7, TX7, 10)) hw ht0 hw2 rfl i1 hdg (key _ ?_)
        refine ⟨fun q => absurd q (by show ¬ c0.1 < 50; omega), fun q => absurd q (by show ¬ c0.1 = 50; omega), fun q => absurd q (by show ¬ c0.1 = 51; omega), fun q => absurd q (by show ¬ c0.1 = 52; omega), fun q => absurd q (by show ¬ c0.1 = 53; omega), fun q => absurd q (by show ¬ c0.1 = 54; omega), fun _ => ⟨cA, _, rfl, hm, fun j a' hj hlt => ?_⟩⟩
        rw [i2]
        rcases ia_get2_set hj with ⟨q1, q2⟩ | ⟨hne, hj'⟩
        · rw [q2, q1, va_up_self]; exact ⟨b2, hb2, rfl⟩
        · rw [va_up_ne _ _ hne]; exact hf _ _ hj' hlt
    · cases h
  · cases h
end IAH
