/-! ## by hand: fillPlates of the class, the whole (wip/p2/gen9s.py) -/
set_option maxRecDepth 100000 in
theorem xd_d83f6033 : decode (ia_code 223) 2 = .ok (.iload_n 2, 1) := fdd_d (by decide +kernel)
set_option maxRecDepth 100000 in
theorem xd_638f0aea : decode (ia_code 223) 3 = .ok (.aload_n 0, 1) := fdd_d (by decide +kernel)
set_option maxRecDepth 100000 in
theorem xd_2f17cd77 : decode (ia_code 223) 4 = .ok (.getfield 79, 3) := fdd_d (by decide +kernel)
set_option maxRecDepth 100000 in
theorem xf_26d15bae : wk_gf 223 79 121 3 0 = true := by decide +kernel
set_option maxRecDepth 100000 in
theorem xd_1ab7a3fd : decode (ia_code 223) 7 = .ok (.if_icmp .ge 83, 3) := fdd_d (by decide +kernel)
set_option maxRecDepth 100000 in
theorem xd_90caf00f : decode (ia_code 223) 10 = .ok (.aload_n 0, 1) := fdd_d (by decide +kernel)
set_option maxRecDepth 100000 in
theorem xd_2b7a9ad6 : decode (ia_code 223) 11 = .ok (.iload_n 2, 1) := fdd_d (by decide +kernel)
set_option maxRecDepth 100000 in
theorem xd_1a3fd93b : decode (ia_code 223) 12 = .ok (.iload_n 1, 1) := fdd_d (by decide +kernel)
set_option maxRecDepth 100000 in
theorem xl_99cd2235 : ia_pl (ia_cls 223) 72 = some (1, 221, 0, 0, 1060) := by decide +kernel
set_option maxRecDepth 100000 in
theorem xd_2bcc7724 : decode (ia_code 223) 13 = .ok (.invokevirtual 72, 3) := fdd_d (by decide +kernel)
set_option maxRecDepth 100000 in
theorem xd_c7c3f7b7 : decode (ia_code 223) 16 = .ok (.istore_n 3, 1) := fdd_d (by decide +kernel)
set_option maxRecDepth 100000 in
theorem xd_e8059e66 : decode (ia_code 223) 17 = .ok (.iconst 0, 1) := fdd_d (by decide +kernel)
set_option maxRecDepth 100000 in
theorem xd_81f24e56 : decode (ia_code 223) 18 = .ok (.istore 4, 2) := fdd_d (by decide +kernel)
set_option maxRecDepth 100000 in
theorem xd_45b1b16d : decode (ia_code 223) 84 = .ok (.iinc 2 1, 3) := fdd_d (by decide +kernel)
set_option maxRecDepth 100000 in
theorem xd_5d715d44 : decode (ia_code 223) 87 = .ok (.goto (-85), 3) := fdd_d (by decide +kernel)
set_option maxRecDepth 100000 in
theorem xd_8f929f55 : decode (ia_code 223) 92 = .ok (.iload_n 2, 1) := fdd_d (by decide +kernel)
set_option maxRecDepth 100000 in
theorem xd_3422f58c : decode (ia_code 223) 93 = .ok (.aload_n 0, 1) := fdd_d (by decide +kernel)
set_option maxRecDepth 100000 in
theorem xd_31b2b976 : decode (ia_code 223) 94 = .ok (.getfield 79, 3) := fdd_d (by decide +kernel)
set_option maxRecDepth 100000 in
theorem xd_d841f487 : decode (ia_code 223) 97 = .ok (.if_icmp .ge 25, 3) := fdd_d (by decide +kernel)
set_option maxRecDepth 100000 in
theorem xd_60dd3a34 : decode (ia_code 223) 122 = .ok (.return_, 1) := fdd_d (by decide +kernel)
set_option maxRecDepth 100000 in
theorem xr_a04601d9 : ia_ret 223 = none := by decide +kernel
set_option maxRecDepth 100000 in
theorem xd_99626f0d : decode (ia_code 223) 100 = .ok (.aload_n 0, 1) := fdd_d (by decide +kernel)
set_option maxRecDepth 100000 in
theorem xd_021185d9 : decode (ia_code 223) 101 = .ok (.aload_n 0, 1) := fdd_d (by decide +kernel)
set_option maxRecDepth 100000 in
theorem xd_4e6f138f : decode (ia_code 223) 102 = .ok (.getfield 15, 3) := fdd_d (by decide +kernel)
set_option maxRecDepth 100000 in
theorem xd_024d244a : decode (ia_code 223) 105 = .ok (.aload_n 0, 1) := fdd_d (by decide +kernel)
set_option maxRecDepth 100000 in
theorem xd_7022b475 : decode (ia_code 223) 106 = .ok (.getfield 19, 3) := fdd_d (by decide +kernel)
set_option maxRecDepth 100000 in
theorem xd_226b46f2 : decode (ia_code 223) 109 = .ok (.iload_n 2, 1) := fdd_d (by decide +kernel)
set_option maxRecDepth 100000 in
theorem xd_c28b8236 : decode (ia_code 223) 110 = .ok (.iaload, 1) := fdd_d (by decide +kernel)
set_option maxRecDepth 100000 in
theorem xd_a7ecb970 : decode (ia_code 223) 111 = .ok (.iaload, 1) := fdd_d (by decide +kernel)
set_option maxRecDepth 100000 in
theorem xd_dd51a1b5 : decode (ia_code 223) 112 = .ok (.iconst (-1), 1) := fdd_d (by decide +kernel)
set_option maxRecDepth 100000 in
theorem xd_6a07842b : decode (ia_code 223) 113 = .ok (.invokevirtual 118, 3) := fdd_d (by decide +kernel)
set_option maxRecDepth 100000 in
theorem xd_758b12c7 : decode (ia_code 223) 116 = .ok (.iinc 2 1, 3) := fdd_d (by decide +kernel)
set_option maxRecDepth 100000 in
theorem xd_14f597eb : decode (ia_code 223) 119 = .ok (.goto (-27), 3) := fdd_d (by decide +kernel)
set_option maxRecDepth 100000 in
theorem xd_482fa074 : decode (ia_code 223) 0 = .ok (.iconst 0, 1) := fdd_d (by decide +kernel)
set_option maxRecDepth 100000 in
theorem xd_43361355 : decode (ia_code 223) 1 = .ok (.istore_n 2, 1) := fdd_d (by decide +kernel)
set_option maxRecDepth 100000 in
theorem xd_8d65e300 : decode (ia_code 223) 90 = .ok (.iconst 0, 1) := fdd_d (by decide +kernel)
set_option maxRecDepth 100000 in
theorem xd_e7b07ac7 : decode (ia_code 223) 91 = .ok (.istore_n 2, 1) := fdd_d (by decide +kernel)
theorem jfl_a {S pc : Nat} {g T : Int} {w0 : cm_W} {pv : Int32} {l0 : Nat → Nat} (hpv : pv.toInt = ((pc : Int) : Int)) (Q : cm_O → Prop) (hk90 : ∀ w l q o3 o4, jTl w l → (∀ f, f < 4 → l f ≤ 5) → jMi w S pc g T → sv_w sg w → jGu w S → jFi w0 w → (∀ f, f < 4 → l f + jPre (jU w) f S = l0 f) → cm_X (cm_C 15) 223 90 [some (.inr (.inr (some 121))), some (.inl pv), some (.inl q), o3, o4] [] w Q) : ∀ (n s : Nat) (l : Nat → Nat) (q : Int32) (o3 o4 : Option cm_V) (w : cm_W), n + s = S → q.toInt = (s : Int) → jEv w S pc g T → jTl w l → (∀ f, f < 4 → l f ≤ 5) → jMi w S pc g T → sv_w sg w → (s < S → ∃ v, 0 ≤ v ∧ v < 31 ∧ jSt w T s l v) → jGu w S → jFi w0 w → (∀ f, f < 4 → l f + jPre (jU w) f s = l0 f) → cm_X (cm_C 15) 223 2 [some (.inr (.inr (some 121))), some (.inl pv), some (.inl q), o3, o4] [] w Q := by
  intro n
  induction n with
  | zero =>
    intro s l q o3 o4 w hi hq he hl h5 hm hG hstm hgu hFi hpre
    obtain ⟨e1, e2, e3, e4, e5, e6, e7, e8, e9⟩ := id he
    refine wk_iload_n xd_d83f6033 rfl ?_
    refine wk_aload_n xd_638f0aea rfl ?_
    refine wk_getI xf_26d15bae xd_2f17cd77 ?_
    refine wk_icmp xd_1ab7a3fd (t := 90) rfl (fun h7_0 => ?_) (fun h7_0 => ?_)
    · have h7_0 := aw_ge_t (a := ((s : Int) : Int)) (b := ((S : Int) : Int)) hq (show ((w.1 121 3)).toInt = ((S : Int) : Int) from e1) h7_0
      have es : s = S := by omega
      subst es
      exact hk90 w l _ _ _ hl h5 hm hG hgu hFi hpre
    · have h7_0 := aw_ge_f (a := ((s : Int) : Int)) (b := ((S : Int) : Int)) hq (show ((w.1 121 3)).toInt = ((S : Int) : Int) from e1) h7_0
      exfalso
      omega
  | succ n ih =>
    intro s l q o3 o4 w hi hq he hl h5 hm hG hstm hgu hFi hpre
    obtain ⟨e1, e2, e3, e4, e5, e6, e7, e8, e9⟩ := id he
    refine wk_iload_n xd_d83f6033 rfl ?_
    refine wk_aload_n xd_638f0aea rfl ?_
    refine wk_getI xf_26d15bae xd_2f17cd77 ?_
    refine wk_icmp xd_1ab7a3fd (t := 90) rfl (fun h7_1 => ?_) (fun h7_1 => ?_)
    · have h7_1 := aw_ge_t (a := ((s : Int) : Int)) (b := ((S : Int) : Int)) hq (show ((w.1 121 3)).toInt = ((S : Int) : Int) from e1) h7_1
      exfalso
      omega
    · have h7_1 := aw_ge_f (a := ((s : Int) : Int)) (b := ((S : Int) : Int)) hq (show ((w.1 121 3)).toInt = ((S : Int) : Int) from e1) h7_1
      refine wk_aload_n xd_90caf00f rfl ?_
      refine wk_iload_n xd_2b7a9ad6 rfl ?_
      refine wk_iload_n xd_1a3fd93b rfl ?_
      obtain ⟨x, w1, hC1, hF1, hR1⟩ := jff_ok (pc := pc) (g := g) (T := T) e4 s (by omega) w q pv l hq hpv he hl h5 hm hG
      obtain ⟨v, v0, v1, hst⟩ := hstm (by omega)
      have hst1 := hF1.2.2.1 s l v (by omega) h5 v0 (by omega) hst
      have hxv : x.toInt = v := by
        rcases hR1 with ⟨h, -⟩ | ⟨-, -, -, h, -⟩
        · omega
        · unfold jSt at h hst1
          omega
      have hok := (hF1.2.2.2.1.2 s (by omega) l h5 v v0 (by omega) hst1).2
      obtain ⟨k1, hk1, hk2⟩ : ∃ k, k < pc ∧ ((w1.1 124 (35 * s + k)).toInt = g ∧ (∀ f, f < 4 → jn k f ≤ l f) ∧ jP k + (w1.1 126 (s + 1)).toInt ≤ v ∧ ((s + 1 = S ∧ v = jP k) ∨ (s + 1 < S ∧ jSt w1 T (s + 1) (fun f => l f - jn k f) (v - jP k)))) := by
        rcases hok with h | h
        · omega
        · obtain ⟨k, h1, h2⟩ := h
          exact ⟨k, h1, h2⟩
      have he1 : jEv w1 S pc g T := jEv_fr (fun a b hab => hF1.1 a b (by omega)) he
      have hl1 : jTl w1 l := fun f hf => by rw [hF1.1 125 f (by decide)]; exact hl f hf
      refine wk_call (kd := 0) (i := 72) xd_2bcc7724 rfl (wk_cal (as := [.inr (.inr (some 121)), .inl q, .inl pv]) (t := []) xl_99cd2235 rfl xn_ef394361 xc_8603ff98 rfl rfl xv_9bfc74de rfl) (cm_C_mono (by omega) hC1) ?_
      refine wk_istore_n xd_c7c3f7b7 (by rw [xm_002747b0]; rfl) rfl ?_
      refine wk_iconst xd_e8059e66 ?_
      refine wk_istore xd_81f24e56 (by rw [xm_002747b0]; rfl) rfl ?_
      refine jfp_s (v := v) (by omega) (by omega) hq hpv hxv he1 hl1 h5 hk1 hk2 _ (fun w' z k hk35 bG b1 b2 b3 b4 b5 b6 => ?_) (k1 + 1) 0 _ w1 (by omega) (by omega) (by decide) ⟨fun _ _ _ => rfl, fun i hi => rfl, fun _ _ _ _ _ _ _ h => h, hF1.2.2.2.1, hF1.2.2.2.2⟩
      refine aw_iinc (a := ((s : Int) : Int)) (b := (1 : Int)) (e := ((s : Int) + 1 : Int)) xd_45b1b16d (by rw [xm_002747b0]; rfl) rfl rfl hq (show ((Int32.ofInt 1)).toInt = 1 from by decide) (by omega) (by omega) (by omega) (fun v103_ p103_ => ?_)
      refine wk_goto xd_5d715d44 (t := 2) rfl ?_
      refine ih (s + 1) (fun f => l f - jn k f) _ _ _ w' (by omega) (by rw [p103_]; omega) ?_ (fun f hf => (b2 f hf).1) (fun f hf => by have := h5 f hf; show l f - jn k f ≤ 5; omega) b5 bG ?_ ?_ ?_ ?_
      · exact jEv_fr (fun a b hab => b1 a b (by omega) (by omega) (by omega)) he1
      · intro hlt
        rcases b6 with h | ⟨h, v', h1, h2, h3⟩
        · omega
        · exact ⟨v', h1, h2, h3⟩
      · intro i j hij hj
        rw [b1 123 i (by decide) (by decide) (by decide), b1 123 j (by decide) (by decide) (by decide), hF1.1 123 i (by decide), hF1.1 123 j (by decide)]
        exact hgu i j hij hj
      · exact fun a b a1 a2 a3 => (b1 a b a1 a2 a3).trans ((hF1.1 a b a1).trans (hFi a b a1 a2 a3))
      · intro f hf
        have hgs := hgu
        have e0 : ∀ i, i < s → jU w' i = jU w i := fun i hi => by
          unfold jU
          have hne := hgu i s hi (by omega)
          rw [b1 123 i (by decide) (by decide) (by decide), hF1.1 123 i (by decide), b4 _ (by
            rw [hF1.1 123 s (by decide)]
            have g1 := hG 123 i
            rw [xh_0b8ae44d i (by omega)] at g1
            have g1 := hb_in g1
            omega), hF1.1 122 _ (by decide)]
        have e2 : jU w' s = cm_pr ia_arA (Int32.ofNat k) := by
          unfold jU
          rw [b1 123 s (by decide) (by decide) (by decide)]
          exact b3
        show (l f - jn k f) + (jPre (jU w') f s + (hu_n (jU w' s) f).toInt.toNat) = l0 f
        rw [jPre_eq s e0, e2]
        have h1 := hpre f hf
        have h2 := (b2 f hf).2
        show (l f - jn k f) + (jPre (jU w) f s + jn k f) = l0 f
        omega
theorem jfl_b {S : Nat} (hS6 : S ≤ 6) {w1 : cm_W} {pv : Int32} {l : Nat → Nat} (hS : (w1.1 121 3).toInt = (S : Int)) (hb : ∀ f, f < 4 → l f + jPre (jU w1) f S ≤ 5) (Q : cm_O → Prop) (hk : ∀ w, ((∀ k j, k ≠ 125 → w.1 k j = w1.1 k j) ∧ ∀ f, f < 4 → (w.1 125 f).toInt = (l f : Int) + (jPre (jU w1) f S : Nat)) → sv_w sg w → Q (none, w)) : ∀ (n i : Nat) (z : Int32) (o3 o4 : Option cm_V) (w : cm_W), n + i = S → z.toInt = (i : Int) → ((∀ k j, k ≠ 125 → w.1 k j = w1.1 k j) ∧ ∀ f, f < 4 → (w.1 125 f).toInt = (l f : Int) + (jPre (jU w1) f i : Nat)) → sv_w sg w → cm_X (cm_C 15) 223 92 [some (.inr (.inr (some 121))), some (.inl pv), some (.inl z), o3, o4] [] w Q := by
  intro n
  induction n with
  | zero =>
    intro i z o3 o4 w hi hz hP hG
    have e1 : (w.1 121 3).toInt = ((S : Int) : Int) := by rw [hP.1 121 3 (by decide)]; exact hS
    refine wk_iload_n xd_8f929f55 rfl ?_
    refine wk_aload_n xd_3422f58c rfl ?_
    refine wk_getI xf_26d15bae xd_31b2b976 ?_
    refine wk_icmp xd_d841f487 (t := 122) rfl (fun h97_0 => ?_) (fun h97_0 => ?_)
    · have h97_0 := aw_ge_t (a := ((i : Int) : Int)) (b := ((S : Int) : Int)) hz (show ((w.1 121 3)).toInt = ((S : Int) : Int) from e1) h97_0
      have es : i = S := by omega
      subst es
      exact wk_return xd_60dd3a34 xr_a04601d9 (hk w hP hG)
    · have h97_0 := aw_ge_f (a := ((i : Int) : Int)) (b := ((S : Int) : Int)) hz (show ((w.1 121 3)).toInt = ((S : Int) : Int) from e1) h97_0
      exfalso
      omega
  | succ n ih =>
    intro i z o3 o4 w hi hz hP hG
    have e1 : (w.1 121 3).toInt = ((S : Int) : Int) := by rw [hP.1 121 3 (by decide)]; exact hS
    refine wk_iload_n xd_8f929f55 rfl ?_
    refine wk_aload_n xd_3422f58c rfl ?_
    refine wk_getI xf_26d15bae xd_31b2b976 ?_
    refine wk_icmp xd_d841f487 (t := 122) rfl (fun h97_1 => ?_) (fun h97_1 => ?_)
    · have h97_1 := aw_ge_t (a := ((i : Int) : Int)) (b := ((S : Int) : Int)) hz (show ((w.1 121 3)).toInt = ((S : Int) : Int) from e1) h97_1
      exfalso
      omega
    · have h97_1 := aw_ge_f (a := ((i : Int) : Int)) (b := ((S : Int) : Int)) hz (show ((w.1 121 3)).toInt = ((S : Int) : Int) from e1) h97_1
      refine wk_aload_n xd_99626f0d rfl ?_
      refine wk_aload_n xd_021185d9 rfl ?_
      refine wk_getR xf_57d6a726 xd_4e6f138f ?_
      refine wk_aload_n xd_024d244a rfl ?_
      refine wk_getR xf_3f3760c7 xd_7022b475 ?_
      have g123 := hG 123 i
      rw [xh_0b8ae44d i (by omega)] at g123
      have g123 := hb_in g123
      obtain ⟨a, ha⟩ : ∃ a : Nat, (w.1 123 i).toInt = ((a : Int) : Int) := ⟨(w.1 123 i).toInt.toNat, by omega⟩
      refine wk_iload_n xd_226b46f2 rfl ?_
      refine aw_iaload (i := i) xf_a878c49b hz (by omega) (by omega) xd_c28b8236 ?_
      refine aw_iaload (i := a) xf_75ee1d1e (show ((w.1 123 i)).toInt = ((a : Int) : Int) from ha) (by omega) (by omega) xd_a7ecb970 ?_
      refine wk_iconst xd_dd51a1b5 ?_
      obtain ⟨w2, hC2, hG2, hS2⟩ := jsv_m (w := w) (w.1 122 a) (t := (Int32.ofInt (-1))) (by decide) (fun f hf => by
        rw [hP.2 f hf]
        have h1 := jPre_mo (u := jU w1) (f := f) (i := i) S (by omega)
        have h2 := hb f hf
        omega) hG
      refine wk_call (kd := 0) (i := 118) xd_6a07842b rfl (wk_cal (as := [.inr (.inr (some 121)), .inl (w.1 122 a), .inl (Int32.ofInt (-1))]) (t := []) xl_4fe950dc rfl xn_5d199f71 xc_429abb26 rfl rfl xv_1b218607 rfl) (cm_C_mono (by omega) hC2) ?_
      refine aw_iinc (a := ((i : Int) : Int)) (b := (1 : Int)) (e := ((i : Int) + 1 : Int)) xd_758b12c7 (by rw [xm_002747b0]; rfl) rfl rfl hz (show ((Int32.ofInt 1)).toInt = 1 from by decide) (by omega) (by omega) (by omega) (fun v3_ p3_ => ?_)
      refine wk_goto xd_14f597eb (t := 92) rfl ?_
      refine ih (i + 1) _ _ _ w2 (by omega) (by rw [p3_]; omega) ⟨fun k j hk => (hS2.2.2 k j hk).trans (hP.1 k j hk), fun f hf => ?_⟩ hG2
      rw [hS2.1 f hf, hP.2 f hf]
      have e0 : jU w1 i = w.1 122 a := by
        unfold jU
        rw [← hP.1 123 i (by decide), ← hP.1 122 _ (by decide), ha]
        rfl
      show (l f : Int) + (jPre (jU w1) f i : Nat) - (-1) * (hu_n (w.1 122 a) f).toInt = (l f : Int) + ((jPre (jU w1) f i + (hu_n (jU w1 i) f).toInt.toNat : Nat) : Int)
      rw [e0]
      have := hu_n_in (w.1 122 a) f
      omega
/-- fillPlates ends, and the stores are as they were -/
theorem jfl_ok {S pc : Nat} {g T : Int} {w : cm_W} {pv : Int32} {l : Nat → Nat} (hpv : pv.toInt = ((pc : Int) : Int)) (he : jEv w S pc g T) (hl : jTl w l) (h5 : ∀ f, f < 4 → l f ≤ 5) (hm : jMi w S pc g T) (hst : 0 < S → ∃ v, 0 ≤ v ∧ v < 31 ∧ jSt w T 0 l v) (hgu : jGu w S) (hG : sv_w sg w) : ∃ w', cm_C 16 223 [.inr (.inr (some 121)), .inl pv] w (none, w') ∧ (∀ a b, a ≠ 127 → a ≠ 122 → a ≠ 125 → w'.1 a b = w.1 a b) ∧ jTl w' l ∧ jMi w' S pc g T ∧ sv_w sg w' := by
  have h : ∃ o, cm_C (15 + 1) 223 [.inr (.inr (some 121)), .inl pv] w o ∧ (fun o : cm_O => ∃ w', o = (none, w') ∧ (∀ a b, a ≠ 127 → a ≠ 122 → a ≠ 125 → w'.1 a b = w.1 a b) ∧ jTl w' l ∧ jMi w' S pc g T ∧ sv_w sg w') o := by
    refine wk_entry (by rw [xm_002747b0]; exact Nat.le_of_ble_eq_true rfl) ?_
    rw [show cm_ent 223 [.inr (.inr (some 121)), .inl pv] = [some (.inr (.inr (some 121))), some (.inl pv), none, none, none] from by unfold cm_ent; rw [xm_002747b0]; rfl]
    refine wk_iconst xd_482fa074 ?_
    refine wk_istore_n xd_43361355 (by rw [xm_002747b0]; rfl) rfl ?_
    refine jfl_a (S := S) (g := g) (T := T) (w0 := w) (l0 := l) hpv _ (fun w2 l2 q o3 o4 h1 h2 h3 h4 h5' h6 h7 => ?_) S 0 l _ _ _ w (by omega) (by decide) he hl h5 hm hG hst hgu (fun _ _ _ _ _ => rfl) (fun f hf => by show l f + 0 = l f; omega)
    refine wk_iconst xd_8d65e300 ?_
    refine wk_istore_n xd_e7b07ac7 (by rw [xm_002747b0]; rfl) rfl ?_
    refine jfl_b he.2.2.2.1 (S := S) (w1 := w2) (l := l2) (by rw [h6 121 3 (by decide) (by decide) (by decide)]; exact he.1) (fun f hf => by rw [h7 f hf]; exact h5 f hf) _ (fun w3 h8 h9 => ⟨w3, rfl, fun a b a1 a2 a3 => (h8.1 a b a3).trans (h6 a b a1 a2 a3), fun f hf => ?_, jMi_fr (fun a b hab => h8.1 a b (by omega)) h3, h9⟩) S 0 _ _ _ w2 (by omega) (by decide) ⟨fun _ _ _ => rfl, fun f hf => ?_⟩ h4
    · rw [h1 f hf]
      show (l2 f : Int) = (l2 f : Int) + ((0 : Nat) : Int)
      omega
    · rw [h8.2 f hf]
      have := h7 f hf
      omega
  obtain ⟨o, hC, w', rfl, a⟩ := h
  exact ⟨w', hC, a⟩
