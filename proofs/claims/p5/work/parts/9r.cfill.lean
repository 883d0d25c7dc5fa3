/-! ## by hand: fillPlates of the class (wip/p2/gen9r.py) -/
set_option maxRecDepth 100000 in
theorem xh_0b8ae44d : ∀ i, i < 6 → sv_g sg 123 i = (2147483648, 2147483653) := by decide +kernel
set_option maxRecDepth 100000 in
theorem xd_12df6754 : decode (ia_code 223) 20 = .ok (.iload 4, 2) := fdd_d (by decide +kernel)
set_option maxRecDepth 100000 in
theorem xd_42217013 : decode (ia_code 223) 22 = .ok (.iload_n 1, 1) := fdd_d (by decide +kernel)
set_option maxRecDepth 100000 in
theorem xd_bb534aeb : decode (ia_code 223) 23 = .ok (.if_icmp .ge 61, 3) := fdd_d (by decide +kernel)
set_option maxRecDepth 100000 in
theorem xd_251e2b5d : decode (ia_code 223) 26 = .ok (.aload_n 0, 1) := fdd_d (by decide +kernel)
set_option maxRecDepth 100000 in
theorem xd_9eae4184 : decode (ia_code 223) 27 = .ok (.iload_n 2, 1) := fdd_d (by decide +kernel)
set_option maxRecDepth 100000 in
theorem xd_372d6e22 : decode (ia_code 223) 28 = .ok (.iload 4, 2) := fdd_d (by decide +kernel)
set_option maxRecDepth 100000 in
theorem xd_545295bd : decode (ia_code 223) 30 = .ok (.iload_n 3, 1) := fdd_d (by decide +kernel)
set_option maxRecDepth 100000 in
theorem xl_ee80d7bc : ia_pl (ia_cls 223) 107 = some (1, 219, 0, 0, 1068) := by decide +kernel
set_option maxRecDepth 100000 in
theorem xd_5421e918 : decode (ia_code 223) 31 = .ok (.invokevirtual 107, 3) := fdd_d (by decide +kernel)
set_option maxRecDepth 100000 in
theorem xd_e4e3cbcf : decode (ia_code 223) 34 = .ok (.ifCond .eq 44, 3) := fdd_d (by decide +kernel)
set_option maxRecDepth 100000 in
theorem xd_b583eadf : decode (ia_code 223) 78 = .ok (.iinc 4 1, 3) := fdd_d (by decide +kernel)
set_option maxRecDepth 100000 in
theorem xm_002747b0 : ia_maxL 223 = 5 := by decide +kernel
set_option maxRecDepth 100000 in
theorem xd_26e2365f : decode (ia_code 223) 81 = .ok (.goto (-61), 3) := fdd_d (by decide +kernel)
set_option maxRecDepth 100000 in
theorem xd_3f48a4ae : decode (ia_code 223) 37 = .ok (.aload_n 0, 1) := fdd_d (by decide +kernel)
set_option maxRecDepth 100000 in
theorem xd_698bff2b : decode (ia_code 223) 38 = .ok (.iload_n 2, 1) := fdd_d (by decide +kernel)
set_option maxRecDepth 100000 in
theorem xd_bfdf897c : decode (ia_code 223) 39 = .ok (.iload 4, 2) := fdd_d (by decide +kernel)
set_option maxRecDepth 100000 in
theorem xd_84f91b7e : decode (ia_code 223) 41 = .ok (.iload_n 1, 1) := fdd_d (by decide +kernel)
set_option maxRecDepth 100000 in
theorem xl_fff20645 : ia_pl (ia_cls 223) 111 = some (1, 222, 0, 0, 1073) := by decide +kernel
set_option maxRecDepth 100000 in
theorem xd_bb80e4fb : decode (ia_code 223) 42 = .ok (.invokevirtual 111, 3) := fdd_d (by decide +kernel)
set_option maxRecDepth 100000 in
theorem xd_fe65e98d : decode (ia_code 223) 45 = .ok (.iload_n 3, 1) := fdd_d (by decide +kernel)
set_option maxRecDepth 100000 in
theorem xd_969ece23 : decode (ia_code 223) 46 = .ok (.if_icmp .ne 32, 3) := fdd_d (by decide +kernel)
set_option maxRecDepth 100000 in
theorem xd_e323a285 : decode (ia_code 223) 49 = .ok (.aload_n 0, 1) := fdd_d (by decide +kernel)
set_option maxRecDepth 100000 in
theorem xd_a61b46f3 : decode (ia_code 223) 50 = .ok (.getfield 15, 3) := fdd_d (by decide +kernel)
set_option maxRecDepth 100000 in
theorem xf_57d6a726 : wk_gf 223 15 121 2 (122 + 3) = true := by decide +kernel
set_option maxRecDepth 100000 in
theorem xd_8f29576d : decode (ia_code 223) 53 = .ok (.aload_n 0, 1) := fdd_d (by decide +kernel)
set_option maxRecDepth 100000 in
theorem xd_9856e109 : decode (ia_code 223) 54 = .ok (.getfield 19, 3) := fdd_d (by decide +kernel)
set_option maxRecDepth 100000 in
theorem xf_3f3760c7 : wk_gf 223 19 121 4 (123 + 3) = true := by decide +kernel
set_option maxRecDepth 100000 in
theorem xd_afb676f3 : decode (ia_code 223) 57 = .ok (.iload_n 2, 1) := fdd_d (by decide +kernel)
set_option maxRecDepth 100000 in
theorem xd_0492bc87 : decode (ia_code 223) 58 = .ok (.iaload, 1) := fdd_d (by decide +kernel)
set_option maxRecDepth 100000 in
theorem xf_a878c49b : wk_ar 123 50 6 = true := by decide +kernel
set_option maxRecDepth 100000 in
theorem xd_cd2ed3fc : decode (ia_code 223) 59 = .ok (.iload 4, 2) := fdd_d (by decide +kernel)
set_option maxRecDepth 100000 in
theorem xl_dd966e35 : ia_pl (ia_cls 223) 88 = some (1, 176, 1, 0, 1031) := by decide +kernel
set_option maxRecDepth 100000 in
theorem xd_7f18ff1c : decode (ia_code 223) 61 = .ok (.invokestatic 88, 3) := fdd_d (by decide +kernel)
set_option maxRecDepth 100000 in
theorem xd_bac9bdcb : decode (ia_code 223) 64 = .ok (.iastore, 1) := fdd_d (by decide +kernel)
set_option maxRecDepth 100000 in
theorem xf_75ee1d1e : wk_ar 122 50 6 = true := by decide +kernel
set_option maxRecDepth 100000 in
theorem xf_ddd5a6ee : sv_gr sg 122 = [] := by decide +kernel
set_option maxRecDepth 100000 in
theorem xd_3afd8c3f : decode (ia_code 223) 65 = .ok (.aload_n 0, 1) := fdd_d (by decide +kernel)
set_option maxRecDepth 100000 in
theorem xd_b843f192 : decode (ia_code 223) 66 = .ok (.iload 4, 2) := fdd_d (by decide +kernel)
set_option maxRecDepth 100000 in
theorem xd_b2c3e39a : decode (ia_code 223) 68 = .ok (.invokestatic 88, 3) := fdd_d (by decide +kernel)
set_option maxRecDepth 100000 in
theorem xd_4a5e9f2c : decode (ia_code 223) 71 = .ok (.iconst 1, 1) := fdd_d (by decide +kernel)
set_option maxRecDepth 100000 in
theorem xl_4fe950dc : ia_pl (ia_cls 223) 118 = some (1, 226, 0, 0, 1077) := by decide +kernel
set_option maxRecDepth 100000 in
theorem xd_7f8f8e35 : decode (ia_code 223) 72 = .ok (.invokevirtual 118, 3) := fdd_d (by decide +kernel)
set_option maxRecDepth 100000 in
theorem xd_19e3cad9 : decode (ia_code 223) 75 = .ok (.goto 9, 3) := fdd_d (by decide +kernel)
/-- the portions that the first j guests have taken -/
noncomputable def jPre (u : Nat → Int32) (f : Nat) : Nat → Nat
  | 0 => 0
  | j + 1 => jPre u f j + (hu_n (u j) f).toInt.toNat
theorem jPre_eq {u u' : Nat → Int32} {f : Nat} : ∀ j, (∀ i, i < j → u i = u' i) → jPre u f j = jPre u' f j
  | 0, _ => rfl
  | j + 1, h => by
    unfold jPre
    rw [jPre_eq j (fun i hi => h i (by omega)), h j (by omega)]
theorem jPre_mo {u : Nat → Int32} {f : Nat} {i : Nat} : ∀ j, i ≤ j → jPre u f i ≤ jPre u f j
  | 0, h => by
    have : i = 0 := by omega
    rw [this]
    exact Nat.le_refl _
  | j + 1, h => by
    by_cases e : i = j + 1
    · rw [e]
      exact Nat.le_refl _
    · have := jPre_mo (u := u) (f := f) (i := i) j (by omega)
      show jPre u f i ≤ jPre u f j + (hu_n (u j) f).toInt.toNat
      omega
/-- the guests are so many persons -/
def jGu (w : cm_W) (S : Nat) : Prop := ∀ i j, i < j → j < S → (w.1 123 i).toInt < (w.1 123 j).toInt
/-- the plate of the guest at a seat -/
def jU (w : cm_W) (i : Nat) : Int32 := w.1 122 (w.1 123 i).toInt.toNat
/-- what filling plates keeps -/
def jFi (w0 w : cm_W) : Prop := ∀ k i, k ≠ 127 → k ≠ 122 → k ≠ 125 → w.1 k i = w0.1 k i
theorem jfp_s {S pc : Nat} {g T v : Int} {s : Nat} (hs : s < S) {w0 : cm_W} {q pv xv : Int32} {l : Nat → Nat} {k1 : Nat} (hv31 : v < 31) (hq : q.toInt = ((s : Int) : Int)) (hpv : pv.toInt = ((pc : Int) : Int)) (hxv : xv.toInt = (v : Int)) (he0 : jEv w0 S pc g T) (hl : jTl w0 l) (h5 : ∀ f, f < 4 → l f ≤ 5) (hkp : k1 < pc) (hk1 : ((w0.1 124 (35 * s + k1)).toInt = g ∧ (∀ f, f < 4 → jn k1 f ≤ l f) ∧ jP k1 + (w0.1 126 (s + 1)).toInt ≤ v ∧ ((s + 1 = S ∧ v = jP k1) ∨ (s + 1 < S ∧ jSt w0 T (s + 1) (fun f => l f - jn k1 f) (v - jP k1))))) (Q : cm_O → Prop) (hk84 : ∀ w' z k, k < 35 → sv_w sg w' → (∀ b c, b ≠ 127 → b ≠ 122 → b ≠ 125 → w'.1 b c = w0.1 b c) → (∀ f, f < 4 → (w'.1 125 f).toInt = ((l f - jn k f : Nat) : Int) ∧ jn k f ≤ l f) → w'.1 122 (w0.1 123 s).toInt.toNat = cm_pr ia_arA (Int32.ofNat k) → (∀ i, i ≠ (w0.1 123 s).toInt.toNat → w'.1 122 i = w0.1 122 i) → jMi w' S pc g T → (s + 1 = S ∨ (s + 1 < S ∧ ∃ v', 0 ≤ v' ∧ v' < 31 ∧ jSt w' T (s + 1) (fun f => l f - jn k f) v')) → cm_X (cm_C 15) 223 84 [some (.inr (.inr (some 121))), some (.inl pv), some (.inl q), some (.inl xv), some (.inl z)] [] w' Q) : ∀ (n k : Nat) (z : Int32) (w : cm_W), n + k = k1 + 1 → k ≤ k1 → z.toInt = (k : Int) → jFp w0 w S pc g T 0 → cm_X (cm_C 15) 223 20 [some (.inr (.inr (some 121))), some (.inl pv), some (.inl q), some (.inl xv), some (.inl z)] [] w Q := by
  intro n
  induction n with
  | zero =>
    intro k z w hi hkle hz hF
    omega
  | succ n ih =>
    intro k z w hi hkle hz hF
    have he : jEv w S pc g T := jEv_fr (fun a b hab => hF.1 a b (by omega)) he0
    obtain ⟨e1, e2, e3, e4, e5, e6, e7, e8, e9⟩ := id he
    have hlw : jTl w l := fun f hf => by rw [hF.1 125 f (by decide)]; exact hl f hf
    have e9s := (e9 s hs)
    have hl1 : -1000 ≤ (w.1 126 (s + 1)).toInt ∧ (w.1 126 (s + 1)).toInt ≤ 1000 := by
      by_cases e : s + 1 = S
      · rw [e, e8]; omega
      · have := e9 (s + 1) (by omega)
        omega
    have hpk : k < 35 := by omega
    refine wk_iload xd_12df6754 rfl ?_
    refine wk_iload_n xd_42217013 rfl ?_
    refine wk_icmp xd_bb534aeb (t := 84) rfl (fun h23_1 => ?_) (fun h23_1 => ?_)
    · have h23_1 := aw_ge_t (a := ((k : Int) : Int)) (b := ((pc : Int) : Int)) hz hpv h23_1
      exfalso
      omega
    · have h23_1 := aw_ge_f (a := ((k : Int) : Int)) (b := ((pc : Int) : Int)) hz hpv h23_1
      refine wk_aload_n xd_251e2b5d rfl ?_
      refine wk_iload_n xd_9eae4184 rfl ?_
      refine wk_iload xd_372d6e22 rfl ?_
      refine wk_iload_n xd_545295bd rfl ?_
      obtain ⟨xc, hCc, hxc⟩ := jct_ok (w := w) (q := q) (kk := z) (mo := xv) (s := s) (k := k) (g := g) (m := v) (l := l) hq hz hxv (by omega) (by omega) e2 hlw ⟨by rw [show 1 + s = s + 1 from by omega]; omega, by rw [show 1 + s = s + 1 from by omega]; omega⟩
      refine wk_call (kd := 0) (i := 107) xd_5421e918 rfl (wk_cal (as := [.inr (.inr (some 121)), .inl q, .inl z, .inl xv]) (t := []) xl_ee80d7bc rfl xn_c7b9efad xc_68402cf9 rfl rfl xv_9a9f065d rfl) (cm_C_mono (by omega) hCc) ?_
      refine wk_if xd_e4e3cbcf (t := 78) rfl (fun h34_2 => ?_) (fun h34_2 => ?_)
      · have h34_2 := aw_eq_t (a := ((xc).toInt : Int)) (b := (0 : Int)) rfl hb_z h34_2
        refine aw_iinc (a := ((k : Int) : Int)) (b := (1 : Int)) (e := ((k : Int) + 1 : Int)) xd_b583eadf (by rw [xm_002747b0]; rfl) rfl rfl hz (show ((Int32.ofInt 1)).toInt = 1 from by decide) (by omega) (by omega) (by omega) (fun v4_ p4_ => ?_)
        refine wk_goto xd_26e2365f (t := 20) rfl ?_
        by_cases ek : k = k1
        · exfalso
          obtain ⟨k2, k3, k4, k5⟩ := hk1
          subst ek
          rcases hxc with ⟨h, -⟩ | ⟨-, h⟩
          · omega
          · exact h ⟨by rw [hF.1 124 _ (by decide)]; exact k2, k3, by rw [hF.1 126 _ (by decide)]; exact k4⟩
        · exact ih (k + 1) _ w (by omega) (by omega) (by rw [p4_]; omega) hF
      · have h34_2 := aw_eq_f (a := ((xc).toInt : Int)) (b := (0 : Int)) rfl hb_z h34_2
        refine wk_aload_n xd_3f48a4ae rfl ?_
        refine wk_iload_n xd_698bff2b rfl ?_
        refine wk_iload xd_bfdf897c rfl ?_
        refine wk_iload_n xd_84f91b7e rfl ?_
        obtain ⟨d1, d2, d3⟩ : (w.1 124 (35 * s + k)).toInt = g ∧ (∀ f, f < 4 → jn k f ≤ l f) ∧ jP k + (w.1 126 (s + 1)).toInt ≤ v := by
          rcases hxc with ⟨-, h⟩ | ⟨h, -⟩
          · exact ⟨h.1, h.2.1, by have := h.2.2; omega⟩
          · omega
        obtain ⟨xw, w2, hCw, hFw, r, hxr, hRw⟩ := jfw (w := w) (N := 14) (by omega) (jff_ok e4 (s + 1) (by omega)) hs hq hz hpv (by omega) he hlw h5 d2 hF.2.2.2.1 hF.2.2.2.2
        have hpi := jP_in k
        have hF2 : jFp w0 w2 S pc g T 0 := ⟨fun a b hab => (hFw.1 a b hab).trans (hF.1 a b hab), fun i hi => absurd hi (by omega), fun s' l' v' a1 a2 a3 a4 a5 => hFw.2.2.1 s' l' v' a1 a2 a3 a4 (hF.2.2.1 s' l' v' a1 a2 a3 a4 a5), hFw.2.2.2.1, hFw.2.2.2.2⟩
        refine wk_call (kd := 0) (i := 111) xd_bb80e4fb rfl (wk_cal (as := [.inr (.inr (some 121)), .inl q, .inl z, .inl pv]) (t := []) xl_fff20645 rfl xn_36fdac12 xc_b746bc75 rfl rfl xv_c0ebc5cb rfl) hCw ?_
        refine wk_iload_n xd_fe65e98d rfl ?_
        refine wk_icmp xd_969ece23 (t := 78) rfl (fun h46_4 => ?_) (fun h46_4 => ?_)
        · have h46_4 := aw_ne_t (a := ((jP k) + r : Int)) (b := (v : Int)) hxr hxv h46_4
          refine aw_iinc (a := ((k : Int) : Int)) (b := (1 : Int)) (e := ((k : Int) + 1 : Int)) xd_b583eadf (by rw [xm_002747b0]; rfl) rfl rfl hz (show ((Int32.ofInt 1)).toInt = 1 from by decide) (by omega) (by omega) (by omega) (fun v6_ p6_ => ?_)
          refine wk_goto xd_26e2365f (t := 20) rfl ?_
          by_cases ek : k = k1
          · exfalso
            obtain ⟨k2, k3, k4, k5⟩ := hk1
            subst ek
            have hv : jP k + r = v := by
              rcases k5 with ⟨h1, h2⟩ | ⟨h1, h2⟩
              · rcases hRw with ⟨h3, h4⟩ | ⟨h3, -⟩
                · omega
                · omega
              · rcases hRw with ⟨h3, h4⟩ | ⟨h3, h4, h5', h6, h7⟩
                · omega
                · have hp := jP_in k
                  have e90 := (he0.2.2.2.2.2.2.2.2 (s + 1) h1).1
                  have h8 := hFw.2.2.1 (s + 1) _ _ h1 (fun f hf => by have := h5 f hf; show l f - jn k f ≤ 5; omega) (by omega) (by omega) (hF.2.2.1 (s + 1) _ _ h1 (fun f hf => by have := h5 f hf; show l f - jn k f ≤ 5; omega) (by omega) (by omega) h2)
                  unfold jSt at h6 h8
                  rw [h6] at h8
                  omega
            omega
          · exact ih (k + 1) _ w2 (by omega) (by omega) (by rw [p6_]; omega) hF2
        · have h46_4 := aw_ne_f (a := ((jP k) + r : Int)) (b := (v : Int)) hxr hxv h46_4
          have g123 := hFw.2.2.2.2 123 s
          rw [xh_0b8ae44d s (by omega)] at g123
          have g123 := hb_in g123
          obtain ⟨a, ha⟩ : ∃ a : Nat, (w2.1 123 s).toInt = ((a : Int) : Int) := ⟨(w2.1 123 s).toInt.toNat, by omega⟩
          refine wk_aload_n xd_e323a285 rfl ?_
          refine wk_getR xf_57d6a726 xd_a61b46f3 ?_
          refine wk_aload_n xd_8f29576d rfl ?_
          refine wk_getR xf_3f3760c7 xd_9856e109 ?_
          refine wk_iload_n xd_afb676f3 rfl ?_
          refine aw_iaload (i := s) xf_a878c49b hq (by omega) (by omega) xd_0492bc87 ?_
          refine wk_iload xd_cd2ed3fc rfl ?_
          refine wk_call (kd := 1) (i := 88) xd_7f18ff1c rfl (wk_cal (as := [.inl z]) (t := [.inl (w2.1 123 s), .inr (.inr (some 122))]) xl_dd966e35 rfl xn_d2327573 xc_fe717d23 rfl rfl rfl rfl) (cm_C_mono (by omega) (jat_ok w2 z)) ?_
          refine aw_iastore (i := a) xf_75ee1d1e (show ((w2.1 123 s)).toInt = ((a : Int) : Int) from ha) (by omega) (by omega) xd_bac9bdcb ?_
          have hG7_ : sv_w sg (cm_u1 w2 122 a (cm_pr ia_arA z)) := sv_w_u1 hFw.2.2.2.2 (by rw [aw_tv2 xf_ddd5a6ee]; exact sv_in_top _)
          refine wk_aload_n xd_3afd8c3f rfl ?_
          refine wk_iload xd_b843f192 rfl ?_
          refine wk_call (kd := 1) (i := 88) xd_b2c3e39a rfl (wk_cal (as := [.inl z]) (t := [.inr (.inr (some 121))]) xl_dd966e35 rfl xn_d2327573 xc_fe717d23 rfl rfl rfl rfl) (cm_C_mono (by omega) (jat_ok (cm_u1 w2 122 a (cm_pr ia_arA z)) z)) ?_
          refine wk_iconst xd_4a5e9f2c ?_
          obtain ⟨w3, hC3, hG3, hS3⟩ := jsv_p (w := (cm_u1 w2 122 a (cm_pr ia_arA z))) (cm_pr ia_arA z) (t := (Int32.ofInt 1)) (by decide) (fun f hf => by rw [hs_u1_ne (by omega), hFw.1 125 f (by decide), hlw f hf]; have := h5 f hf; omega) hG7_
          refine wk_call (kd := 0) (i := 118) xd_7f8f8e35 rfl (wk_cal (as := [.inr (.inr (some 121)), .inl (cm_pr ia_arA z), .inl (Int32.ofInt 1)]) (t := []) xl_4fe950dc rfl xn_5d199f71 xc_429abb26 rfl rfl xv_1b218607 rfl) (cm_C_mono (by omega) hC3) ?_
          refine wk_goto xd_19e3cad9 (t := 84) rfl ?_
          have hkk : z = Int32.ofNat k := hk_of hz (by omega)
          rw [hkk] at hS3
          have ea : (w0.1 123 s).toInt.toNat = a := by rw [← hF2.1 123 s (by decide), ha]; omega
          refine hk84 w3 z k hpk hG3 (fun b c b1 b2 b3 => ?_) (fun f hf => ?_) ?_ (fun i hi => ?_) ?_ ?_
          · rw [hS3.2.2 b c b3, hs_u1_ne (by omega)]
            exact hF2.1 b c b1
          · rw [hS3.1 f hf, hs_u1_ne (by omega), hF2.1 125 f (by decide), hl f hf]
            have h1 := d2 f hf
            have h2 := jn_to k f
            refine ⟨?_, h1⟩
            rw [h2]
            omega
          · rw [ea, hS3.2.2 122 a (by decide), hs_u1_self]
          · rw [hS3.2.2 122 i (by decide), hs_u1_ne (by omega)]
            exact hF2.1 122 i (by decide)
          · exact jMi_fr (fun b c hbc => (hS3.2.2 b c (by omega)).trans (hs_u1_ne (by omega))) hF2.2.2.2.1
          · rcases hRw with ⟨h3, h4⟩ | ⟨h3, h4, h5', h6, h7⟩
            · exact .inl h3
            · refine .inr ⟨h3, v - jP k, by omega, by omega, ?_⟩
              unfold jSt at h6 ⊢
              rw [hS3.2.2 127 _ (by decide), hs_u1_ne (by omega), h6]
              omega
