/-! ## instructions over the world -/
section IAH
variable {p : Program} {l : Launch} {e : Env} {R : Room} {s : State} {m : MethodId} {args : Array Value} {below : List Frame} {meth : Method} {c : Code} {Q : State → Prop}
variable {D : va_G} {sa : Nat} {A : Nat → Prop} {as0 : List Nat} {nL y pc : Nat} {lv : List (Option ia_V)} {st : List ia_V} {σ : ia_H} {n nc ns : Nat} {ih : ia_K} {out : ia_O} {i d : Nat}
/-- what a method's body knows of the machine -/
def ia_X (p : Program) (R : Room) (s : State) (m : MethodId) (args : Array Value) (meth : Method) (c : Code) (y d : Nat) : Prop :=
  p.tables.exec = Jvm.exec ∧ c.code = ia_code y ∧ c.maxLocals = ia_maxL y ∧ s.vm.findClass (ia_own (ia_cls y)) = some m.cls ∧ (∀ w ∈ ia_cw y :: ia_TB, w.before args s = true) ∧ meth.locks = false ∧ meth.sig.returnType = ia_ret y ∧ R.frames = d + 1 ∧ R.locals = 100 * (d + 1) ∧ R.cells = ia_mc y ∧ R.slots = ia_ms y ∧ ((ia_nm y).name = "<init>" → meth.name = "<init>") ∧ ia_okM y = true
theorem ia_X.hts (X : ia_X p R s m args meth c y d) {w : Cond} (h : w ∈ ia_TB) : w.before args s = true := X.2.2.2.2.1 w (List.mem_cons_of_mem _ h)
theorem ia_hts (X : ia_X p R s m args meth c y d) : ∀ w ∈ ia_TB, w.before args s = true := fun _ h => X.hts h
/-- a class's types, names: by its number -/
theorem ia_cty {ci : Nat} {r : vw_C} (hc : vwCl[ci]? = some r) : ∃ ty : Nat → FieldType, (∀ k, k < r.2.2 → parseFieldDescriptor (r.2.1 k).2.2.1 = some (ty k)) ∧ (∀ a, a < r.2.2 → ∀ b, b < r.2.2 → a ≠ b → (r.2.1 a).2.1 ≠ (r.2.1 b).2.1) ∧ ∃ q, ia_Fs[ci]? = some q ∧ q.1 = r.2.2 ∧ ∃ fs : List Value, (∀ j, j < r.2.2 → defaultValue (ty j) = vp_V fs j) ∧ ∀ (sa : Nat) (ad : List Nat) (k : Nat) (a : ia_V), ia_get2 q.2 k = some a → ∃ v, fs[k]? = some v ∧ ia_v sa ad a v := by
  sorry
theorem ia_s_gf (X : ia_X p R s m args meth c y d) (hdg : decode (ia_code y) pc = .ok (.getfield i, 3)) (ihk : ia_IH p l e R s m args below meth c Q D sa A as0 nL y ih out) (h : ia_gf y i ih pc lv st σ n nc ns = some out) : ia_WW p l e R s m args below meth c Q D sa A as0 nL y pc lv st σ n nc ns := by
  obtain ⟨hx, hb, hml, hown, hts, -⟩ := id X
  unfold ia_gf at h
  intro H locs ws tys ls l' vst hl hL hSt hK hP hD hS hn hR hxx h1 h2
  split at h
  · rename_i k t
    obtain ⟨_, vt, rfl, ⟨b, hkb, rfl⟩, g3⟩ := hSt
    split at h
    · rename_i ci sl kd pp hpl
      obtain ⟨r, hr, hsl, hlk, -, -, -, -⟩ := ia_ok0 (ia_pl_ok hpl)
      have hci : ci < 13 := (List.getElem?_eq_some_iff.mp hr).1
      split at h
      · rename_i c0 hc0
        obtain ⟨hq, h⟩ := ia_if_eq h
        have hq := ia_beq hq
        split at h
        · rename_i v hv
          rw [ia_nx_eq] at h
          obtain ⟨e0, hw, hc⟩ := hR.at hc0 (by omega) hkb
          obtain ⟨vs, rfl, hvs⟩ := hc.1 (by omega)
          obtain ⟨w, hw1, hw2⟩ := hvs sl v hv
          rw [hq] at hw
          exact va_get (D := D) (ci := ci) (C := r.1) (T := r.2.1) (N := r.2.2) hx hb (ia_hts X) (ia_okC_at hr).1 hown hK hP k hw hr sl hsl (X.hts hlk) (fun _ h9 => h9) hw1 hdg (ihk _ _ _ _ _ _ _ h H locs ws tys ls l' _ hl hL ⟨_, _, rfl, hw2, g3⟩ hK hP hD hS hn hR hxx h1 h2)
        · cases h
      · cases h
    · cases h
  · cases h
theorem ia_fits {ty : FieldType} {kd ci : Nat} {a : ia_V} {v : Value} {ad : List Nat} (hk : ia_kt kd (some ty) = true) (hf : ia_fit y ci kd a = true) (hv : ia_v sa ad a v) : narrow ty v = v ∧ fits ty v = true := by
  unfold ia_fit at hf
  split at hf
  · rename_i q
    obtain ⟨x, rfl, -⟩ := hv
    cases ty <;> first | exact ⟨rfl, rfl⟩ | (cases hk)
  · rename_i q
    obtain ⟨x, rfl, x1, x2⟩ := hv
    simp only [Bool.and_eq_true, Bool.or_eq_true] at hf
    have hE : ia_E x = q.1 := ia_one (ia_beq hf.1) x1 x2
    have hx : x = 0 ∨ x = 1 := by
      rcases hf.2 with z | z
      · exact Or.inl (ia_E_inj (by rw [hE, ia_beq z]; decide))
      · exact Or.inr (ia_E_inj (by rw [hE, ia_beq z]; decide))
    cases ty <;> first | (rcases hx with rfl | rfl <;> exact ⟨by decide, by decide⟩) | (cases hk)
  · cases hv
    cases ty <;> first | exact ⟨rfl, rfl⟩ | (cases hk)
  · rename_i q
    have hv' : v = .null ∨ ∃ b, v = .ref b := by
      rcases q with (_ | z) | z
      · exact Or.inl hv
      · obtain ⟨b, -, rfl⟩ := hv; exact Or.inr ⟨b, rfl⟩
      · exact Or.inr ⟨_, hv⟩
    cases ty <;> first | (rcases hv' with rfl | ⟨b, rfl⟩ <;> exact ⟨rfl, rfl⟩) | (cases hk)
  · rename_i q
    have hv' : v = .null ∨ ∃ b, v = .ref b := by
      rcases q with (_ | z) | z
      · exact Or.inl hv
      · obtain ⟨b, -, rfl⟩ := hv; exact Or.inr ⟨b, rfl⟩
      · exact Or.inr ⟨_, hv⟩
    cases ty <;> first | (rcases hv' with rfl | ⟨b, rfl⟩ <;> exact ⟨rfl, rfl⟩) | (cases hk)
  · cases hf
theorem ia_s_pf (X : ia_X p R s m args meth c y d) (hdg : decode (ia_code y) pc = .ok (.putfield i, 3)) (ihk : ia_IH p l e R s m args below meth c Q D sa A as0 nL y ih out) (h : ia_pf y i ih pc lv st σ n nc ns = some out) : ia_WW p l e R s m args below meth c Q D sa A as0 nL y pc lv st σ n nc ns := by
  obtain ⟨hx, hb, hml, hown, hts, -, -, -, -, -, -, hini, -⟩ := id X
  unfold ia_pf at h
  intro H locs ws tys ls l' vst hl hL hSt hK hP hD hS hn hR hxx h1 h2
  split at h
  · rename_i v k t
    obtain ⟨w, _, rfl, hv, _, vt, rfl, ⟨b, hkb, rfl⟩, g3⟩ := hSt
    split at h
    · rename_i ci sl kd pp hpl
      obtain ⟨r, hr, hsl, hlk, hfin, hdec, hrown, hkt⟩ := ia_ok0 (ia_pl_ok hpl)
      have hci : ci < 13 := (List.getElem?_eq_some_iff.mp hr).1
      obtain ⟨ty, hty, hnm, -⟩ := ia_cty hr
      split at h
      · rename_i c0 hc0
        obtain ⟨hq, h⟩ := ia_if_eq h
        rw [Bool.and_eq_true] at hq
        have hq1 := ia_beq hq.1
        rw [ia_set2K_eq, ia_set2K_eq, ia_nx_eq] at h
        obtain ⟨e0, hw, hc⟩ := hR.at hc0 (by omega) hkb
        obtain ⟨vs, rfl, hvs⟩ := hc.1 (by omega)
        rw [hty sl hsl] at hkt
        obtain ⟨f1, f2⟩ := ia_fits hkt hq.2 hv
        have hlen : sl < vs.length := by sorry
        have hR2 : ia_R sa tys (ia_set2 σ k (c0.1, c0.2.1, ia_set2 c0.2.2 sl v)) (ws.set k (b, .inr (c0.1, vs.set sl w))) := by
          refine hR.set hw ?_
          refine ⟨fun _ => ⟨vs.set sl w, rfl, fun j a hj => ?_⟩, fun z => absurd z (by show ¬ c0.1 = 50; omega), fun z => absurd z (by show ¬ c0.1 = 51; omega), fun z => absurd z (by show ¬ c0.1 = 52; omega), fun z => absurd z (by show ¬ c0.1 = 53; omega), fun z => absurd z (by show ¬ c0.1 = 54; omega), fun z => absurd z (by show ¬ c0.1 = 55; omega)⟩
          rcases ia_get2_set hj with ⟨rfl, rfl⟩ | ⟨hne, hj'⟩
          · exact ⟨w, List.getElem?_set_self hlen, hv⟩
          · obtain ⟨u, u1, u2⟩ := hvs j a hj'
            exact ⟨u, by rw [List.getElem?_set_ne (fun z => hne z.symm)]; exact u1, u2⟩
        have hfst := ia_fst_set (e := .inr (c0.1, vs.set sl w)) hw
        rw [hq1] at hw hR2 hfst
        have key : ∀ (H1 : Heap) (locs1 : List Loc), va_P D vwCl (ws.set k (b, .inr (ci, vs.set sl w))) H1 → va_D A (ws.set k (b, .inr (ci, vs.set sl w))) → va_S A s.heap H1 locs1 → W p l e R s m args below meth c H1 locs1 nc ns Q (F0 m (pc + 3) ls vt) := fun H1 locs1 hP1 hD1 hS1 =>
          ihk _ _ _ _ _ _ _ h H1 locs1 _ tys ls l' vt hl (by rw [hfst]; exact hL) (by rw [hfst]; exact g3) hK hP1 hD1 hS1 (by rw [List.length_set]; exact hn) (by rw [hq1]; exact hR2) (by rw [hfst]; exact hxx) h1 h2
        by_cases hf4 : 4 ≤ kd
        · have hfin' : (r.2.1 sl).2.2.2 = true := by rw [hfin]; exact Nat.ble_eq_true_of_le hf4
          have hk7 : (ia_cls y = ci ∧ (ia_nm y).name = "<init>") := by
            have hz := hq.2
            unfold ia_fit at hz
            split at hz
            · omega
            · omega
            · omega
            · omega
            · simp only [Bool.and_eq_true, decide_eq_true_eq] at hz
              exact ⟨ia_beq hz.1, hz.2⟩
            · cases hz
          exact va_putF (D := D) (ci := ci) (C := r.1) (T := r.2.1) (N := r.2.2) hx hb (ia_hts X) (ia_okC_at hr).1 ty hty hnm hown hK hP hD hS k hw hr sl hsl (X.hts hlk) (fun _ h9 => h9) hfin' (hini hk7.2) (by rw [hdec, hrown, hk7.1]) (hty sl hsl) f1 f2 hlen hdg key
        · have hfin' : (r.2.1 sl).2.2.2 = false := by
            rw [hfin]
            cases hz : Nat.ble 4 kd with
            | false => rfl
            | true => exact absurd (ia_ble hz) hf4
          exact va_put (D := D) (ci := ci) (C := r.1) (T := r.2.1) (N := r.2.2) hx hb (ia_hts X) (ia_okC_at hr).1 ty hty hnm hown hK hP hD hS k hw hr sl hsl (X.hts hlk) (fun _ h9 => h9) hfin' (hty sl hsl) f1 f2 hlen hdg key
      · cases h
    · cases h
  · cases h
end IAH
