/-! ## the reference's sentence: its loop (wip/p22/gen_sr3.py) -/
theorem se_op {Q : cm_O → Prop} {w w' : cm_W} {x : Int32} (hf : (w.1 184 43).toInt = 0) (hC : cm_C 5 134 [.inr (.inr (some 184))] w (some (.inl x), w')) (hx : (x.toInt = 1 ∧ cm_X (cm_C 5) 140 48 [some (.inr (.inr (some 184))), some (.inl (Int32.ofInt 1)), none] [] w' Q) ∨ (x.toInt = 0 ∧ Q (some (.inl (Int32.ofInt (-1) - w'.1 184 16)), w'))) : cm_X (cm_C 5) 140 48 [some (.inr (.inr (some 184))), some (.inl (Int32.ofInt 1)), none] [] w Q := by
  refine wk_iload_n xd_0c13fa6d rfl ?_
  refine wk_if xd_e9371d20 (t := 132) rfl (fun h => absurd (aw_eq_t (show ((Int32.ofInt 1)).toInt = 1 from by decide) hb_z h) (by omega)) (fun _ => ?_)
  refine wk_aload_n xd_077af558 rfl ?_
  refine wk_getI xf_2e8acacf xd_6cedb5ce ?_
  refine wk_if xd_005745ea (t := 101) rfl (fun _ => ?_) (fun h => absurd (aw_eq_f (show ((w.1 184 43)).toInt = (0 : Int) from hf) hb_z h) (by omega))
  refine wk_aload_n xd_d50f777f rfl ?_
  refine wk_getI xf_2e8acacf xd_6d7fd16c ?_
  refine wk_if xd_3a1b47db (t := 118) rfl (fun _ => ?_) (fun h => absurd (aw_eq_f (show ((w.1 184 43)).toInt = (0 : Int) from hf) hb_z h) (by omega))
  refine wk_aload_n xd_cfe0bbaa rfl ?_
  refine wk_call (kd := 0) (i := 437) xd_009d0f25 rfl (wk_cal (as := [.inr (.inr (some 184))]) (t := []) xl_28789060 rfl xn_33636405 xc_9bb021e3 rfl rfl xv_42f58ced rfl) hC ?_
  rcases hx with ⟨hx, hq⟩ | ⟨hx, hq⟩
  · skip
    refine wk_if xd_8b46e32d (t := 48) rfl (fun _ => ?_) (fun h => absurd (aw_ne_f hx hb_z h) (by omega))
    exact hq
  · skip
    refine wk_if xd_8b46e32d (t := 48) rfl (fun h => absurd (aw_ne_t hx hb_z h) (by omega)) (fun _ => ?_)
    refine wk_iconst xd_4ab8efa4 ?_
    refine wk_aload_n xd_7a8d23de rfl ?_
    refine wk_getI xf_c4b0f69c xd_f05b9c13 ?_
    refine wk_isub xd_98cc436b ?_
    exact wk_ireturn xd_527d89e5 xr_7245c6db rfl hq
theorem se_be {Q : cm_O → Prop} {w w' : cm_W} {x : Int32} (hf : (w.1 184 43).toInt = 1) (htk : (w.1 184 11).toInt ≠ 0) (hC : cm_C 5 243 [.inr (.inr (some 184))] w (some (.inl x), w')) (hx : (x.toInt = 1 ∧ cm_X (cm_C 5) 140 48 [some (.inr (.inr (some 184))), some (.inl (Int32.ofInt 1)), none] [] w' Q) ∨ (x.toInt = 0 ∧ Q (some (.inl (Int32.ofInt (-1) - w'.1 184 16)), w'))) : cm_X (cm_C 5) 140 48 [some (.inr (.inr (some 184))), some (.inl (Int32.ofInt 1)), none] [] w Q := by
  refine wk_iload_n xd_0c13fa6d rfl ?_
  refine wk_if xd_e9371d20 (t := 132) rfl (fun h => absurd (aw_eq_t (show ((Int32.ofInt 1)).toInt = 1 from by decide) hb_z h) (by omega)) (fun _ => ?_)
  refine wk_aload_n xd_077af558 rfl ?_
  refine wk_getI xf_2e8acacf xd_6cedb5ce ?_
  refine wk_if xd_005745ea (t := 101) rfl (fun h => absurd (aw_eq_t (show ((w.1 184 43)).toInt = (1 : Int) from hf) hb_z h) (by omega)) (fun _ => ?_)
  refine wk_aload_n xd_71268f43 rfl ?_
  refine wk_getI xf_23b88666 xd_ed539f4a ?_
  refine wk_if xd_927567cc (t := 101) rfl (fun h63_2 => ?_) (fun h63_2 => ?_)
  · have h63_2 := aw_ne_t (a := ((w.1 184 11).toInt : Int)) (b := (0 : Int)) rfl hb_z h63_2
    refine wk_aload_n xd_d50f777f rfl ?_
    refine wk_getI xf_2e8acacf xd_6d7fd16c ?_
    refine wk_if xd_3a1b47db (t := 118) rfl (fun h => absurd (aw_eq_t (show ((w.1 184 43)).toInt = (1 : Int) from hf) hb_z h) (by omega)) (fun _ => ?_)
    refine wk_aload_n xd_4ec5de8d rfl ?_
    refine wk_call (kd := 0) (i := 435) xd_8b8759ef rfl (wk_cal (as := [.inr (.inr (some 184))]) (t := []) xl_95c67c0c rfl xn_adae9230 xc_7731ce5c rfl rfl xv_b674f7af rfl) hC ?_
    rcases hx with ⟨hx, hq⟩ | ⟨hx, hq⟩
    · skip
      refine wk_if xd_3e19d1ea (t := 48) rfl (fun _ => ?_) (fun h => absurd (aw_ne_f hx hb_z h) (by omega))
      exact hq
    · skip
      refine wk_if xd_3e19d1ea (t := 48) rfl (fun h => absurd (aw_ne_t hx hb_z h) (by omega)) (fun _ => ?_)
      refine wk_goto xd_39acb335 (t := 125) rfl ?_
      refine wk_iconst xd_4ab8efa4 ?_
      refine wk_aload_n xd_7a8d23de rfl ?_
      refine wk_getI xf_c4b0f69c xd_f05b9c13 ?_
      refine wk_isub xd_98cc436b ?_
      exact wk_ireturn xd_527d89e5 xr_7245c6db rfl hq
  · have h63_2 := aw_ne_f (a := ((w.1 184 11).toInt : Int)) (b := (0 : Int)) rfl hb_z h63_2
    exfalso
    omega
theorem se_st {Q : cm_O → Prop} {w w1 w2 : cm_W} {t : Nat} (hf : (w.1 184 43).toInt = 1) (htk : (w.1 184 11).toInt = 0) (hC1 : cm_C 5 276 [.inr (.inr (some 184))] w (none, w1)) (hC2 : cm_C 5 269 [.inr (.inr (some 184)), .inl ((Int8.ofInt 22).toInt32)] w1 (none, w2)) (ht : (w2.1 184 41).toInt = (t : Int)) (hb : 0 < t → Q (some (.inl (Int32.ofInt (-1) - (cm_u1 (cm_u1 w2 184 15 (Int32.ofInt 1)) 184 16 ((cm_u1 w2 184 15 (Int32.ofInt 1)).1 184 12)).1 184 16)), (cm_u1 (cm_u1 w2 184 15 (Int32.ofInt 1)) 184 16 ((cm_u1 w2 184 15 (Int32.ofInt 1)).1 184 12)))) (he : t = 0 → cm_X (cm_C 5) 140 132 [some (.inr (.inr (some 184))), some (.inl (Int32.ofInt 0)), none] [] w2 Q) : cm_X (cm_C 5) 140 48 [some (.inr (.inr (some 184))), some (.inl (Int32.ofInt 1)), none] [] w Q := by
  refine wk_iload_n xd_0c13fa6d rfl ?_
  refine wk_if xd_e9371d20 (t := 132) rfl (fun h => absurd (aw_eq_t (show ((Int32.ofInt 1)).toInt = 1 from by decide) hb_z h) (by omega)) (fun _ => ?_)
  refine wk_aload_n xd_077af558 rfl ?_
  refine wk_getI xf_2e8acacf xd_6cedb5ce ?_
  refine wk_if xd_005745ea (t := 101) rfl (fun h => absurd (aw_eq_t (show ((w.1 184 43)).toInt = (1 : Int) from hf) hb_z h) (by omega)) (fun _ => ?_)
  refine wk_aload_n xd_71268f43 rfl ?_
  refine wk_getI xf_23b88666 xd_ed539f4a ?_
  refine wk_if xd_927567cc (t := 101) rfl (fun h => absurd (aw_ne_t (show ((w.1 184 11)).toInt = (0 : Int) from htk) hb_z h) (by omega)) (fun _ => ?_)
  refine wk_aload_n xd_5f38fde3 rfl ?_
  refine wk_call (kd := 0) (i := 429) xd_4a934236 rfl (wk_cal (as := [.inr (.inr (some 184))]) (t := []) xl_96df8d60 rfl xn_e3da6fee xc_fa74d1ed rfl rfl xv_36cad7ca rfl) hC1 ?_
  refine wk_aload_n xd_33d7eabe rfl ?_
  refine wk_bipush xd_d2e8d2e0 ?_
  refine wk_call (kd := 0) (i := 432) xd_3c5a066c rfl (wk_cal (as := [.inr (.inr (some 184)), .inl ((Int8.ofInt 22).toInt32)]) (t := []) xl_797ddbbf rfl xn_33df7a20 xc_445d2b36 rfl rfl xv_fe70f5fc rfl) hC2 ?_
  refine wk_aload_n xd_de1d98c4 rfl ?_
  refine wk_getI xf_67cd7098 xd_92b5929c ?_
  refine wk_if xd_f5fc9b45 (t := 96) rfl (fun h80_3 => ?_) (fun h80_3 => ?_)
  · have h80_3 := aw_le_t (a := ((t : Int) : Int)) (b := (0 : Int)) (show ((w2.1 184 41)).toInt = ((t : Int) : Int) from ht) hb_z h80_3
    refine wk_iconst xd_b3440e98 ?_
    refine wk_istore_n xd_c733a0e1 (by rw [xm_495561d5]; rfl) rfl ?_
    refine wk_goto xd_fdebc456 (t := 48) rfl ?_
    refine wk_iload_n xd_0c13fa6d rfl ?_
    refine wk_if xd_e9371d20 (t := 132) rfl (fun _ => ?_) (fun h => absurd (aw_eq_f (show ((Int32.ofInt 0)).toInt = 0 from by decide) hb_z h) (by omega))
    exact he (by omega)
  · have h80_3 := aw_le_f (a := ((t : Int) : Int)) (b := (0 : Int)) (show ((w2.1 184 41)).toInt = ((t : Int) : Int) from ht) hb_z h80_3
    refine wk_aload_n xd_a627d84a rfl ?_
    refine wk_iconst xd_3b07047c ?_
    refine wk_call (kd := 0) (i := 176) xd_7da2993a rfl (wk_cal (as := [.inr (.inr (some 184)), .inl (Int32.ofInt 1)]) (t := []) xl_d5615fa2 rfl xn_f63023b8 xc_1907b494 rfl rfl xv_a1095a1b rfl) (cm_C_mono (by omega) (mb_ok (w := w2) (k := (Int32.ofInt 1)))) ?_
    refine wk_pop xd_9ee0e7ad ?_
    refine wk_iconst xd_fc7a543d ?_
    refine wk_aload_n xd_51e78450 rfl ?_
    refine wk_getI xf_c4b0f69c xd_57d108da ?_
    refine wk_isub xd_52fff486 ?_
    exact wk_ireturn xd_e71393b5 xr_7245c6db rfl (hb (by omega))
theorem rm_C_t {w : cm_W} {t : sp_T} (h : rm_C w t) : (w.1 184 11).toInt = t.1 := h.2.1
theorem sp_beg (t : sp_T) : sp_no t ∨ (t.1 = 3 ∧ t.2.2.2.1 = 40) ∨ ∃ k, 13 ≤ k ∧ k ≤ 21 ∧ ps_wd t k := by
  by_cases h1 : t.1 = 3 ∧ t.2.2.2.1 = 40
  · exact .inr (.inl h1)
  · by_cases h2 : ∃ k, 13 ≤ k ∧ k ≤ 21 ∧ ps_wd t k
    · exact .inr (.inr h2)
    · exact .inl ⟨h1, fun k a b z => h2 ⟨k, a, b, z⟩⟩
def se_A (FQ GQ : Nat → Nat → Prop) (r : sp_R) : Prop := match r with
  | .inl e => FQ e.1 e.2
  | .inr z => GQ z.1 z.2
theorem sr_d20 : ∀ (l : List Nat), (∀ a, a ∈ l → a = 20) → sr_d l = l.length
  | [], _ => rfl
  | a :: l, h => by
    have h1 := sr_d20 l (fun b hb => h b (List.mem_cons_of_mem _ hb))
    show (if a = 20 ∨ a = 23 then 1 else 0) + sr_d l = l.length + 1
    rw [if_pos (.inl (h a List.mem_cons_self)), h1]
    omega
theorem sr_dJ : ∀ (l : List Nat), (∀ a, a ∈ l → a = 21 ∨ a = 22) → sr_d l = 0
  | [], _ => rfl
  | a :: l, h => by
    have h1 := sr_dJ l (fun b hb => h b (List.mem_cons_of_mem _ hb))
    have h2 := h a List.mem_cons_self
    show (if a = 20 ∨ a = 23 then 1 else 0) + sr_d l = 0
    rw [if_neg (by omega), h1]
section SE
variable {Q : cm_O → Prop} {w0 : cm_W} {T : Nat → Int} {n m : Nat} {h : Nat → Int} {nm : Nat → Nat}
/-- what is due when a fault is found -/
def se_F (Q : cm_O → Prop) (w0 : cm_W) (k q : Nat) : Prop := ∀ w', sr_V w0 w' → cr_B w' k q → Q (some (.inl (Int32.ofInt (-1) - w'.1 184 16)), w')
/-- what is due behind a ONE -/
def se_G (Q : cm_O → Prop) (w0 : cm_W) (T : Nat → Int) (n m o0 : Nat) (s : List Nat) (o p : Nat) : Prop := ∀ (w' : cm_W) (c : Nat) (l : List Nat), (∀ a, a ∈ l → a = 20) → sr_V w0 w' → sr_M w' T n m p o (l ++ s).length (1 + sr_d (l ++ s)) c 1 → sr_K w' (l ++ s) → c + (l ++ s).length + 1 ≤ 2 * o → o0 < o → o ≤ 20 → cm_X (cm_C 5) 140 48 [some (.inr (.inr (some 184))), some (.inl (Int32.ofInt 1)), none] [] w' Q
/-- what is due behind a COND -/
def se_L (Q : cm_O → Prop) (w0 : cm_W) (T : Nat → Int) (n m o0 : Nat) (s : List Nat) (o p : Nat) : Prop := ¬ (ps_wd (tx_tk T n m p) 12 ∨ ps_wd (tx_tk T n m p) 11) → ∀ (w' : cm_W) (c : Nat) (l J : List Nat), (∀ a, a ∈ l → a = 20) → (∀ a, a ∈ J → a = 21 ∨ a = 22) → sr_V w0 w' → sr_M w' T n m p o (l ++ (J ++ s)).length (1 + sr_d s + l.length) c 1 → sr_K w' (l ++ (J ++ s)) → c + (l ++ (J ++ s)).length + 1 ≤ 2 * o → o0 < o → o ≤ 20 → cm_X (cm_C 5) 140 48 [some (.inr (.inr (some 184))), some (.inl (Int32.ofInt 1)), none] [] w' Q
def se_1 (Q : cm_O → Prop) (w0 : cm_W) (T : Nat → Int) (n m : Nat) (h : Nat → Int) (nm : Nat → Nat) (e : Nat) : Prop := ∀ (o p : Nat) (s : List Nat) (c : Nat) (w : cm_W), sr_V w0 w → sr_M w T n m p o s.length (1 + sr_d s) c 0 → sr_K w s → c + s.length ≤ 2 * o → o ≤ 20 → sr_d s + e = 8 → se_A (se_F Q w0) (se_G Q w0 T n m o s) (sp_one T n m h nm e o p) → cm_X (cm_C 5) 140 48 [some (.inr (.inr (some 184))), some (.inl (Int32.ofInt 1)), none] [] w Q
def se_2 (Q : cm_O → Prop) (w0 : cm_W) (T : Nat → Int) (n m : Nat) (h : Nat → Int) (nm : Nat → Nat) (e : Nat) : Prop := ∀ (g o p o0 : Nat) (J s : List Nat) (c : Nat) (w : cm_W), (s = [] ∨ ∃ r, s = 23 :: r) → (∀ a, a ∈ J → a = 21 ∨ a = 22) → sr_V w0 w → sr_M w T n m p o (J ++ s).length (1 + sr_d s) c 0 → sr_K w (J ++ s) → c + (J ++ s).length ≤ 2 * o → o ≤ 20 → o0 ≤ o → 21 ≤ o + g → sr_d s + e = 8 → se_A (se_F Q w0) (se_L Q w0 T n m o0 s) (sp_lp T n m (fun o p => sp_one T n m h nm e o p) g o p) → cm_X (cm_C 5) 140 48 [some (.inr (.inr (some 184))), some (.inl (Int32.ofInt 1)), none] [] w Q
theorem se_lp (hR0 : mv_R w0 h nm) {e : Nat} (H1 : se_1 Q w0 T n m h nm e) : se_2 Q w0 T n m h nm e := by
  intro g
  induction g with
  | zero => exact fun o p o0 J s c w _ _ _ _ _ _ ho _ hg => absurd hg (by omega)
  | succ g ih =>
    intro o p o0 J s c w hs hJ hV hM hK hin ho ho0 hg hd hA
    have hdJ : sr_d (J ++ s) = sr_d s := by rw [sr_d_app, sr_dJ J hJ, Nat.zero_add]
    refine H1 o p (J ++ s) c w hV (by rw [hdJ]; exact hM) hK hin ho (by rw [hdJ]; exact hd) ?_
    cases e9 : sp_one T n m h nm e o p with
    | inl z =>
      rw [sp_l_e (one := fun o p => sp_one T n m h nm e o p) e9] at hA
      exact hA
    | inr z =>
      show se_G Q w0 T n m o (J ++ s) z.1 z.2
      intro w' c' l hl hV' hM' hK' hin' hlt hle
      have hdl : sr_d (l ++ (J ++ s)) = l.length + sr_d s := by rw [sr_d_app, sr_d20 l hl, hdJ]
      have hM2 : sr_M w' T n m z.2 z.1 (l ++ (J ++ s)).length (1 + sr_d s + l.length) c' 1 := by
        rw [hdl, show 1 + (l.length + sr_d s) = 1 + sr_d s + l.length from by omega] at hM'
        exact hM'
      by_cases hmore : ps_wd (tx_tk T n m z.2) 12 ∨ ps_wd (tx_tk T n m z.2) 11
      · rw [sp_l_m (one := fun o p => sp_one T n m h nm e o p) e9 hmore] at hA
        rcases hmore with hw | hw
        · obtain ⟨x, w2, hC, hV2, hx, J', t', c2, j1, j2, j3, j4, j5⟩ := sr_b12 hs hl hJ hM2 hK' hin' hle hw
          have e1 : (w'.1 184 11).toInt = 1 := by rw [rm_C_t hM'.1.2.1, hw.1]; rfl
          refine se_be hM'.2.2.2.2.2.2 (by omega) (cm_C_mono (by omega) hC) (.inl ⟨hx, ?_⟩)
          have j2' : t' = ((21 :: J') ++ s).length := j2
          rw [j2'] at j3 j5
          exact ih z.1 _ o0 (21 :: J') s c2 w2 hs (fun a ha => (List.mem_cons.mp ha).elim (fun z => .inl z) (j1 a)) (sr_V_tr hV' hV2) j3 j4 (by omega) hle (by omega) (by omega) hd hA
        · obtain ⟨x, w2, hC, hV2, hx, J', t', c2, j1, j2, j3, j4, j5⟩ := sr_b11 hs hl hJ hM2 hK' hin' hle hw
          have e1 : (w'.1 184 11).toInt = 1 := by rw [rm_C_t hM'.1.2.1, hw.1]; rfl
          refine se_be hM'.2.2.2.2.2.2 (by omega) (cm_C_mono (by omega) hC) (.inl ⟨hx, ?_⟩)
          have j2' : t' = ((22 :: J') ++ s).length := j2
          rw [j2'] at j3 j5
          exact ih z.1 _ o0 (22 :: J') s c2 w2 hs (fun a ha => (List.mem_cons.mp ha).elim (fun z => .inr z) (j1 a)) (sr_V_tr hV' hV2) j3 j4 (by omega) hle (by omega) (by omega) hd hA
      · rw [sp_l_z (one := fun o p => sp_one T n m h nm e o p) e9 hmore] at hA
        exact hA hmore w' c' l J hl hJ hV' hM2 hK' hin' (by omega) hle
/-- the text ends, or what follows can't -/
theorem se_end {o p c : Nat} {l J s : List Nat} {w : cm_W} (hs : s = [] ∨ ∃ r, s = 23 :: r) (hl : ∀ a, a ∈ l → a = 20) (hJ : ∀ a, a ∈ J → a = 21 ∨ a = 22) (hV : sr_V w0 w) (hM : sr_M w T n m p o (l ++ (J ++ s)).length (1 + sr_d s + l.length) c 1) (hK : sr_K w (l ++ (J ++ s))) (hin : c + (l ++ (J ++ s)).length + 1 ≤ 2 * o) (ho : o ≤ 20) (hno : ¬ (ps_wd (tx_tk T n m p) 12 ∨ ps_wd (tx_tk T n m p) 11)) (h41 : s ≠ [] → ¬ ((tx_tk T n m p).1 = 3 ∧ (tx_tk T n m p).2.2.2.1 = 41)) (hf : (tx_tk T n m p).1 ≠ 0 ∨ s ≠ [] → se_F Q w0 1 (tx_tk T n m p).2.1) (he : (tx_tk T n m p).1 = 0 → s = [] → ∀ (w2 : cm_W) (c2 : Nat), sr_V w0 w2 → sr_M w2 T n m p o 0 1 c2 1 → c2 ≤ 40 → cm_X (cm_C 5) 140 132 [some (.inr (.inr (some 184))), some (.inl (Int32.ofInt 0)), none] [] w2 Q) : cm_X (cm_C 5) 140 48 [some (.inr (.inr (some 184))), some (.inl (Int32.ofInt 1)), none] [] w Q := by
  by_cases h0 : (tx_tk T n m p).1 = 0
  · obtain ⟨w1, hC1, f1, f2, hK1, ht1, hd1, hc1⟩ := sr_nots (s := J ++ s) (l := l) (d := 1 + sr_d s) (c := c) (w := w) (sr_h20 hs hJ) hl hK hM.2.2.2.1 hM.2.2.2.2.1 hM.2.2.2.2.2.1 (by have := List.length_append (as := l) (bs := J ++ s); omega) (by omega)
    have hlen := List.length_append (as := l) (bs := J ++ s)
    have hlen2 := List.length_append (as := J) (bs := s)
    obtain ⟨w2, J', hC2, q1, q2, q3, ⟨f3, f4⟩, hK2, ht2, hc2⟩ := sr_joins (till := 22) (vt := ((Int8.ofInt 22).toInt32)) (w := w1) (c := c + l.length) (sr_h212 hs) (by decide) (by omega) hJ hK1 ht1 hc1 (by omega) (by omega)
    have hJ0 : J' = [] := q3 rfl
    subst hJ0
    have hM1 : sr_M w1 T n m p o (J ++ s).length (1 + sr_d s) (c + l.length) 1 := sr_mk hM ⟨fun i => f1 185 i (by omega) (by omega), fun i hi => f1 184 i (by omega) (by omega), f2⟩ (by rw [f1 184 40 (by omega) (by omega)]; exact hM.2.2.1) ht1 hd1 hc1 (by rw [f1 184 43 (by omega) (by omega)]; exact hM.2.2.2.2.2.2)
    have hM2 : sr_M w2 T n m p o s.length (1 + sr_d s) (c + l.length + (J.length - ([] : List Nat).length)) 1 := sr_mk hM1 ⟨fun i => f3 185 i (by omega) (by omega), fun i hi => f3 184 i (by omega) (by omega), f4⟩ (by rw [f3 184 40 (by omega) (by omega)]; exact hM1.2.2.1) ht2 (by rw [f3 184 42 (by omega) (by omega)]; exact hM1.2.2.2.2.1) hc2 (by rw [f3 184 43 (by omega) (by omega)]; exact hM1.2.2.2.2.2.2)
    have hV2 : sr_V w0 w2 := sr_V_tr hV (sr_V_tr (fun k i a b c => ⟨f1 k i (by omega) b, by rw [f2]⟩) (fun k i a b c => ⟨f3 k i (by omega) b, by rw [f4]⟩))
    refine se_st (t := s.length) hM.2.2.2.2.2.2 (by rw [rm_C_t hM.1.2.1, h0]; rfl) (cm_C_mono (by omega) hC1) (cm_C_mono (by omega) hC2) ht2 (fun hp => ?_) (fun hz => ?_)
    · have hB := rm_bB (w := w2) (k := (Int32.ofInt 1)) (c := 1) (by decide) hM2.1.2.1.1
      exact hf (.inr (fun z => by rw [z] at hp; exact absurd hp (by decide))) _ (sr_V_tr hV2 (sr_V_E (rm_E_B hB))) (cr_B_B hB)
    · have hs0 : s = [] := List.eq_nil_of_length_eq_zero hz
      subst hs0
      exact he h0 rfl w2 _ hV2 hM2 (by have e0 : ([] : List Nat).length = 0 := rfl; omega)
  · have e1 : (w.1 184 11).toInt ≠ 0 := by
      rw [rm_C_t hM.1.2.1]
      omega
    obtain ⟨x, w2, hC, hV2, hx, hB⟩ := sr_bn hs hl hJ hM hK hin ho (fun z => hno (.inl z)) (fun z => hno (.inr z)) h41
    exact se_be hM.2.2.2.2.2.2 e1 (cm_C_mono (by omega) hC) (.inr ⟨hx, hf (.inl h0) w2 (sr_V_tr hV hV2) hB⟩)
theorem se_s (hR0 : mv_R w0 h nm) {e : Nat} (H : ∀ e', e' + 1 = e → se_1 Q w0 T n m h nm e') : se_1 Q w0 T n m h nm e := by
  intro o p s c w hV hM hK hin ho hd hA
  have hRw : mv_R w h nm := sr_V_R hV hR0
  have hf0 : (w.1 184 43).toInt = 0 := hM.2.2.2.2.2.2
  rcases sp_beg (tx_tk T n m p) with hn | h40 | ⟨k, hk1, hk2, hw⟩
  · rw [sp_1no hn] at hA
    obtain ⟨x, w', hC, hV', hx, hB⟩ := op_no hRw hM hK rfl hin ho hn
    exact se_op hf0 hC (.inr ⟨hx, hA w' (sr_V_tr hV hV') hB⟩)
  · by_cases hfull : o = 20 ∨ 8 < 1 + sr_d s
    · have hA4 : se_F Q w0 4 (tx_tk T n m p).2.1 := by
        rcases hfull with z | z
        · rw [sp_1f (sp_nono40 h40) (by omega)] at hA
          exact hA
        · have e0 : e = 0 := by omega
          rw [e0, sp_1z (sp_nono40 h40)] at hA
          exact hA
      obtain ⟨x, w', hC, hV', hx, hB⟩ := op_4a hRw hM hK rfl hin ho hfull h40
      exact se_op hf0 hC (.inr ⟨hx, hA4 w' (sr_V_tr hV hV') hB⟩)
    · obtain ⟨e', rfl⟩ : ∃ e', e = e' + 1 := ⟨e - 1, by omega⟩
      have H' := H e' rfl
      obtain ⟨x, w', hC, hV', hx, hM', hK'⟩ := op_40 hRw hM hK rfl hin ho (fun z => hfull (.inl z)) (by omega) h40
      refine se_op hf0 hC (.inl ⟨hx, ?_⟩)
      rw [sp_1s40 (by omega) h40] at hA
      have hd23 : sr_d (23 :: s) = 1 + sr_d s := rfl
      refine se_lp hR0 H' 21 (o + 1) _ (o + 1) [] (23 :: s) c w' (.inr ⟨s, rfl⟩) (fun a ha => by cases ha) (sr_V_tr hV hV') (by rw [hd23, show 1 + (1 + sr_d s) = 1 + sr_d s + 1 from by omega]; exact hM') hK' (by show c + (s.length + 1) ≤ _; omega) (by omega) (Nat.le_refl _) (by omega) (by rw [hd23]; omega) ?_
      cases e9 : sp_lp T n m (fun o p => sp_one T n m h nm e' o p) 21 (o + 1) (tx_tk T n m p).2.2.1 with
      | inl z =>
        rw [sp_c_e e9] at hA
        exact hA
      | inr z =>
        show se_L Q w0 T n m (o + 1) (23 :: s) z.1 z.2
        intro hno w2 c2 l J hl hJ hV2 hM2 hK2 hin2 hlt hle
        by_cases h41 : (tx_tk T n m z.2).1 = 3 ∧ (tx_tk T n m z.2).2.2.2.1 = 41
        · rw [sp_c_y e9 h41] at hA
          rw [hd23] at hM2
          obtain ⟨x3, w3, hC3, hV3, hx3, t3, c3, k1, k2, k3, k4⟩ := sr_bc hl hJ (by rw [show 1 + (1 + sr_d s) + l.length = 1 + sr_d s + 1 + l.length from by omega] at hM2; exact hM2) hK2 hin2 hle (fun z => hno (.inl z)) (fun z => hno (.inr z)) h41
          have e1 : (w2.1 184 11).toInt = 3 := by rw [rm_C_t hM2.1.2.1, h41.1]; rfl
          rw [k1] at k2 k4
          exact se_be hM2.2.2.2.2.2.2 (by omega) (cm_C_mono (by omega) hC3) (.inl ⟨hx3, hA w3 c3 [] (fun a ha => by cases ha) (sr_V_tr hV2 hV3) k2 k3 k4 (by show o < z.1; omega) hle⟩)
        · rw [sp_c_n e9 h41] at hA
          exact se_end (.inr ⟨s, rfl⟩) hl hJ hV2 hM2 hK2 hin2 hle hno (fun _ => h41) (fun _ => hA) (fun _ z => by cases z)
  · by_cases hfull : o = 20 ∨ 8 < 1 + sr_d s
    · have hA4 : se_F Q w0 4 (tx_tk T n m p).2.1 := by
        rcases hfull with z | z
        · rw [sp_1f (sp_nono hw hk1 hk2) (by omega)] at hA
          exact hA
        · have e0 : e = 0 := by omega
          rw [e0, sp_1z (sp_nono hw hk1 hk2)] at hA
          exact hA
      by_cases h13 : k = 13
      · subst h13
        obtain ⟨x, w', hC, hV', hx, hB⟩ := op_4b hRw hM hK rfl hin ho hfull hw
        exact se_op hf0 hC (.inr ⟨hx, hA4 w' (sr_V_tr hV hV') hB⟩)
      · obtain ⟨x, w', hC, hV', hx, hB⟩ := op_4c hRw hM hK rfl hin ho hfull (k := k) (by omega) hk2 hw
        exact se_op hf0 hC (.inr ⟨hx, hA4 w' (sr_V_tr hV hV') hB⟩)
    · obtain ⟨e', rfl⟩ : ∃ e', e = e' + 1 := ⟨e - 1, by omega⟩
      have H' := H e' rfl
      have h20 : ¬ 20 ≤ o := fun z => hfull (.inl (by omega))
      have ho20 : o ≠ 20 := fun z => hfull (.inl z)
      have hd8 : 1 + sr_d s ≤ 8 := by omega
      -- what is due behind a leaf
      have leaf : ∀ (x : Int32) (w' : cm_W) (p' : Nat), cm_C 5 134 [.inr (.inr (some 184))] w (some (.inl x), w') → sr_V w w' → x.toInt = 1 → sr_M w' T n m p' (o + 1) s.length (1 + sr_d s) (c + 1) 1 → sr_K w' s → se_G Q w0 T n m o s (o + 1) p' → cm_X (cm_C 5) 140 48 [some (.inr (.inr (some 184))), some (.inl (Int32.ofInt 1)), none] [] w Q := fun x w' p' hC hV' hx hM' hK' hG => se_op hf0 hC (.inl ⟨hx, hG w' (c + 1) [] (fun a ha => by cases ha) (sr_V_tr hV hV') hM' hK' (by show c + 1 + s.length + 1 ≤ _; omega) (by omega) (by omega)⟩)
      rcases (show k = 13 ∨ (14 ≤ k ∧ k ≤ 15) ∨ k = 16 ∨ k = 17 ∨ (18 ≤ k ∧ k ≤ 21) by omega) with rfl | ⟨k1, k2⟩ | rfl | rfl | ⟨k1, k2⟩
      · obtain ⟨x, w', hC, hV', hx, hM', hK'⟩ := op_13 hRw hM hK rfl hin ho ho20 hd8 hw
        refine se_op hf0 hC (.inl ⟨hx, ?_⟩)
        rw [sp_1s13 h20 hw] at hA
        have hd20 : sr_d (20 :: s) = 1 + sr_d s := rfl
        refine H' (o + 1) _ (20 :: s) c w' (sr_V_tr hV hV') (by rw [hd20, show 1 + (1 + sr_d s) = 1 + sr_d s + 1 from by omega]; exact hM') hK' (by show c + (s.length + 1) ≤ _; omega) (by omega) (by rw [hd20]; omega) ?_
        cases e9 : sp_one T n m h nm e' (o + 1) (tx_tk T n m p).2.2.1 with
        | inl z =>
          rw [e9] at hA
          exact hA
        | inr z =>
          rw [e9] at hA
          show se_G Q w0 T n m (o + 1) (20 :: s) z.1 z.2
          intro w2 c2 l hl hV2 hM2 hK2 hin2 hlt hle
          have ea : l ++ 20 :: s = (l ++ [20]) ++ s := by rw [List.append_assoc]; rfl
          rw [ea] at hM2 hK2 hin2
          exact hA w2 c2 (l ++ [20]) (fun a ha => (List.mem_append.mp ha).elim (hl a) (fun z => by rcases List.mem_cons.mp z with z | z; exact z; cases z)) hV2 hM2 hK2 hin2 (by show o < z.1; omega) hle
      · obtain ⟨x, w', hC, hV', hx, hM', hK'⟩ := op_il hRw hM hK rfl hin ho ho20 hd8 k1 k2 hw
        refine leaf x w' _ hC hV' hx hM' hK' ?_
        rcases (show k = 14 ∨ k = 15 by omega) with rfl | rfl
        · rw [sp_1s14 h20 hw] at hA
          exact hA
        · rw [sp_1s15 h20 hw] at hA
          exact hA
      · rw [sp_1s16 h20 hw] at hA
        obtain ⟨x, w', hC, hV', hP⟩ := op_16 hRw hM hK rfl hin ho ho20 hd8 hw
        rcases hP with ⟨p', er, hx, hM', hK'⟩ | ⟨k9, q9, er, hx, hB⟩
        · rw [er] at hA
          exact leaf x w' p' hC hV' hx hM' hK' hA
        · rw [er] at hA
          exact se_op hf0 hC (.inr ⟨hx, hA w' (sr_V_tr hV hV') hB⟩)
      · rw [sp_1s17 h20 hw] at hA
        obtain ⟨x, w', hC, hV', hP⟩ := op_17 hRw hM hK rfl hin ho ho20 hd8 hw
        rcases hP with ⟨p', er, hx, hM', hK'⟩ | ⟨k9, q9, er, hx, hB⟩
        · rw [er] at hA
          exact leaf x w' p' hC hV' hx hM' hK' hA
        · rw [er] at hA
          exact se_op hf0 hC (.inr ⟨hx, hA w' (sr_V_tr hV hV') hB⟩)
      · have hA2 : se_A (se_F Q w0) (se_G Q w0 T n m o s) (sp_cmp T n m (o + 1) (tx_tk T n m p).2.2.1) := by
          rcases (show k = 18 ∨ k = 19 ∨ k = 20 ∨ k = 21 by omega) with rfl | rfl | rfl | rfl
          · rw [sp_1s18 h20 hw] at hA
            exact hA
          · rw [sp_1s19 h20 hw] at hA
            exact hA
          · rw [sp_1s20 h20 hw] at hA
            exact hA
          · rw [sp_1s21 h20 hw] at hA
            exact hA
        obtain ⟨x, w', hC, hV', hP⟩ := op_cmp hRw hM hK rfl hin ho ho20 hd8 k1 k2 hw
        rcases hP with ⟨p', er, hx, hM', hK'⟩ | ⟨k9, q9, er, hx, hB⟩
        · rw [er] at hA2
          exact leaf x w' p' hC hV' hx hM' hK' hA2
        · rw [er] at hA2
          exact se_op hf0 hC (.inr ⟨hx, hA2 w' (sr_V_tr hV hV') hB⟩)
theorem se_all (hR0 : mv_R w0 h nm) : ∀ e, se_1 Q w0 T n m h nm e
  | 0 => se_s hR0 (fun e' he => by cases he)
  | e + 1 => se_s hR0 (fun e' he => by
    have := se_all hR0 e
    rw [show e' = e from by omega]
    exact this)
end SE
theorem se_cp {w1 : cm_W} {c o : Nat} (hc40 : c ≤ 40) (Q : cm_O → Prop) (hk : ∀ (x : Int32) (w : cm_W), x.toInt = (o : Int) → ((∀ k j, k ≠ 186 → w.1 k j = w1.1 k j) ∧ w.2 = w1.2) → Q (some (.inl x), w)) : ∀ (f i : Nat) (vi : Int32) (w : cm_W), f + i = 3 * c → vi.toInt = (i : Int) → (w.1 184 39).toInt = (c : Int) → (w.1 184 40).toInt = (o : Int) → ((∀ k j, k ≠ 186 → w.1 k j = w1.1 k j) ∧ w.2 = w1.2) → cm_X (cm_C 5) 140 145 [some (.inr (.inr (some 184))), some (.inl (Int32.ofInt 0)), some (.inl vi)] [] w Q := by
  intro f
  induction f with
  | zero =>
    intro i vi w hfi hvi hcw how hfr
    refine wk_iload_n xd_9c96c8be rfl ?_
    refine wk_iconst xd_b5224008 ?_
    refine wk_aload_n xd_51c39b5a rfl ?_
    refine wk_getI xf_92e1ef45 xd_3cf55441 ?_
    refine aw_imul (a := (3 : Int)) (b := ((c : Int) : Int)) (e := (3 * (c : Int) : Int)) xd_6293a76b (show ((Int32.ofInt 3)).toInt = 3 from by decide) (show ((w.1 184 39)).toInt = ((c : Int) : Int) from hcw) (by omega) (by omega) (by omega) (fun v1_ p1_ => ?_)
    refine wk_icmp xd_ea75d6b2 (t := 176) rfl (fun h152_1 => ?_) (fun h152_1 => ?_)
    · have h152_1 := aw_ge_t (a := ((i : Int) : Int)) (b := (3 * (c : Int) : Int)) hvi p1_ h152_1
      refine wk_aload_n xd_92aed8a6 rfl ?_
      refine wk_getI xf_31139d40 xd_bac328d3 ?_
      exact wk_ireturn xd_4d9c813b xr_7245c6db rfl (hk _ _ how hfr)
    · have h152_1 := aw_ge_f (a := ((i : Int) : Int)) (b := (3 * (c : Int) : Int)) hvi p1_ h152_1
      exfalso
      omega
  | succ f ih =>
    intro i vi w hfi hvi hcw how hfr
    refine wk_iload_n xd_9c96c8be rfl ?_
    refine wk_iconst xd_b5224008 ?_
    refine wk_aload_n xd_51c39b5a rfl ?_
    refine wk_getI xf_92e1ef45 xd_3cf55441 ?_
    refine aw_imul (a := (3 : Int)) (b := ((c : Int) : Int)) (e := (3 * (c : Int) : Int)) xd_6293a76b (show ((Int32.ofInt 3)).toInt = 3 from by decide) (show ((w.1 184 39)).toInt = ((c : Int) : Int) from hcw) (by omega) (by omega) (by omega) (fun v3_ p3_ => ?_)
    refine wk_icmp xd_ea75d6b2 (t := 176) rfl (fun h152_3 => ?_) (fun h152_3 => ?_)
    · have h152_3 := aw_ge_t (a := ((i : Int) : Int)) (b := (3 * (c : Int) : Int)) hvi p3_ h152_3
      exfalso
      omega
    · have h152_3 := aw_ge_f (a := ((i : Int) : Int)) (b := (3 * (c : Int) : Int)) hvi p3_ h152_3
      refine wk_aload_n xd_3d702d94 rfl ?_
      refine wk_getR xf_973724d5 xd_113d62d7 ?_
      refine wk_bipush xd_84299e0e ?_
      refine wk_iload_n xd_45f1a522 rfl ?_
      refine aw_iadd (a := (121 : Int)) (b := ((i : Int) : Int)) (e := ((i : Int) + 121 : Int)) xd_14190c2b (show (((Int8.ofInt 121).toInt32)).toInt = 121 from by decide) hvi (by omega) (by omega) (by omega) (fun v5_ p5_ => ?_)
      refine wk_aload_n xd_88a4f6c6 rfl ?_
      refine wk_getR xf_e2b26f6c xd_29a9e31a ?_
      refine wk_iload_n xd_a83bd758 rfl ?_
      refine aw_iaload (i := i) xf_659780ae hvi (by omega) (by omega) xd_8f1094fd ?_
      refine aw_iastore (i := (121 + i)) xf_31d67ad9 p5_ (by omega) (by omega) xd_9b3b84d2 ?_
      refine aw_iinc (a := ((i : Int) : Int)) (b := (1 : Int)) (e := ((i : Int) + 1 : Int)) xd_f99072dc (by rw [xm_495561d5]; rfl) rfl rfl hvi (show ((Int32.ofInt 1)).toInt = 1 from by decide) (by omega) (by omega) (by omega) (fun v6_ p6_ => ?_)
      refine wk_goto xd_ba2ca106 (t := 145) rfl ?_
      exact ih (i + 1) _ (cm_u1 w 186 (121 + i) (w.1 188 i)) (by omega) (by omega) (by rw [hs_u1_ne (by omega)]; exact hcw) (by rw [hs_u1_ne (by omega)]; exact how) ⟨fun k j hj => (hs_u1_ne (by omega)).trans (hfr.1 k j hj), hfr.2⟩
theorem se_ex {w : cm_W} {c o : Nat} {Q : cm_O → Prop} (hc40 : c ≤ 40) (hcw : (w.1 184 39).toInt = (c : Int)) (how : (w.1 184 40).toInt = (o : Int)) (hk : ∀ (x : Int32) (w' : cm_W), x.toInt = (o : Int) → ((∀ k j, k ≠ 186 → w'.1 k j = w.1 k j) ∧ w'.2 = w.2) → Q (some (.inl x), w')) : cm_X (cm_C 5) 140 132 [some (.inr (.inr (some 184))), some (.inl (Int32.ofInt 0)), none] [] w Q := by
  refine wk_aload_n xd_fbf4e76a rfl ?_
  refine wk_getR xf_973724d5 xd_70d56593 ?_
  refine wk_bipush xd_3187d0d1 ?_
  refine wk_aload_n xd_16db77a5 rfl ?_
  refine wk_getI xf_92e1ef45 xd_093db450 ?_
  refine aw_iastore (i := 120) xf_31d67ad9 (show (((Int8.ofInt 120).toInt32)).toInt = 120 from by decide) (by omega) (by omega) xd_eb87c6c7 ?_
  refine wk_iconst xd_b90bcd18 ?_
  refine wk_istore_n xd_0940896f (by rw [xm_495561d5]; rfl) rfl ?_
  exact se_cp (w1 := w) hc40 Q hk (3 * c) 0 _ (cm_u1 w 186 120 (w.1 184 39)) (by omega) (show ((Int32.ofInt 0)).toInt = 0 from by decide) (by rw [hs_u1_ne (by omega)]; exact hcw) (by rw [hs_u1_ne (by omega)]; exact how) ⟨fun k j hj => hs_u1_ne (by omega), rfl⟩
theorem sen_ok {w : cm_W} {T : Nat → Int} {n : Nat} {h : Nat → Int} {nm : Nat → Nat} (hT : ∀ j, j < 940 → (w.1 185 j &&& ((Int16.ofInt 255).toInt32)).toInt = T j) (hb : ∀ j, 0 ≤ T j ∧ T j ≤ 255) (hn : (w.1 184 2).toInt = (n : Int)) (hn9 : n ≤ 940) (hRw : ∀ k, k < 22 → w.2 190 k = Int64.ofNat (tx_F (tx_rw.getD k 0))) (hRm : mv_R w h nm) : ∃ x w', cm_C 6 140 [.inr (.inr (some 184))] w (some (.inl x), w') ∧ ((∃ k q, sp_all T n 200 h nm = .inl (k, q) ∧ x = Int32.ofInt (-1) - Int32.ofInt (q : Int) ∧ (w'.1 184 15).toInt = (k : Int)) ∨ (∃ v, sp_all T n 200 h nm = .inr v ∧ x.toInt = (v : Int) ∧ (w'.1 184 15).toInt = 0)) := by
  have h9 : ∃ oo, cm_C (5 + 1) 140 [.inr (.inr (some 184))] w oo ∧ (fun oo : cm_O => ∃ x w', oo = (some (.inl x), w') ∧ ((∃ k q, sp_all T n 200 h nm = .inl (k, q) ∧ x = Int32.ofInt (-1) - Int32.ofInt (q : Int) ∧ (w'.1 184 15).toInt = (k : Int)) ∨ (∃ v, sp_all T n 200 h nm = .inr v ∧ x.toInt = (v : Int) ∧ (w'.1 184 15).toInt = 0))) oo := by
    refine wk_entry (by rw [xm_495561d5]; exact Nat.le_of_ble_eq_true rfl) ?_
    rw [show cm_ent 140 [.inr (.inr (some 184))] = [some (.inr (.inr (some 184))), none, none] from by unfold cm_ent; rw [xm_495561d5]; rfl]
    refine wk_aload_n xd_59ba84cf rfl ?_
    refine wk_iconst xd_e6a08295 ?_
    refine wk_putI xf_a97f0ddc (fun ci => wk_fitI ci) xd_1eaeb975 ?_
    refine wk_aload_n xd_c295cf88 rfl ?_
    refine wk_sipush xd_d0245217 ?_
    refine wk_call (kd := 0) (i := 232) xd_e9e171a2 rfl (wk_cal (as := [.inr (.inr (some 184)), .inl ((Int16.ofInt 200).toInt32)]) (t := []) xl_a46b7a99 rfl xn_8a0f2cb7 xc_11bee548 rfl rfl xv_8b88ab9c rfl) (cm_C_mono (by omega) (mk_ok (w := (cm_u1 w 184 0 (Int32.ofInt 0))) (a := ((Int16.ofInt 200).toInt32)))) ?_
    refine wk_aload_n xd_6e7c6b07 rfl ?_
    refine wk_iconst xd_f874ba7e ?_
    refine wk_putI xf_92d6a76b (fun ci => wk_fitI ci) xd_7e1ab808 ?_
    refine wk_aload_n xd_f5532040 rfl ?_
    refine wk_iconst xd_784f313e ?_
    refine wk_putI xf_e070cf1b (fun ci => wk_fitI ci) xd_62db6947 ?_
    refine wk_aload_n xd_3662c22f rfl ?_
    refine wk_iconst xd_8e918343 ?_
    refine wk_putI xf_4382bd1e (fun ci => wk_fitI ci) xd_f1a75eba ?_
    refine wk_aload_n xd_ad4d8968 rfl ?_
    refine wk_iconst xd_0eaa0803 ?_
    refine wk_putI xf_155c50c6 (fun ci => wk_fitI ci) xd_a8334b31 ?_
    refine wk_aload_n xd_b747a708 rfl ?_
    refine wk_iconst xd_28824027 ?_
    refine wk_putI xf_def9978e (fun ci => wk_fitI ci) xd_ec3f9195 ?_
    refine wk_aload_n xd_2c68ec4f rfl ?_
    refine wk_iconst xd_95d9e2d7 ?_
    refine wk_putI xf_90b1ea0f (fun _ => aw_fb (.inl (by decide))) xd_cf6bd77e ?_
    refine wk_aload_n xd_865f907f rfl ?_
    obtain ⟨u, hu⟩ : ∃ u, u = (cm_u1 (cm_u1 (cm_u1 (cm_u1 (cm_u1 (cm_u1 (cm_u1 (cm_u1 (cm_u1 (cm_u1 (cm_u1 w 184 0 (Int32.ofInt 0)) 184 3 ((cm_u1 w 184 0 (Int32.ofInt 0)).1 184 2)) 184 2 (Int32.ofInt 0)) 184 4 (Int32.ofInt 0)) 184 5 ((Int16.ofInt 200).toInt32)) 184 15 (Int32.ofInt 0)) 184 39 (Int32.ofInt 0)) 184 40 (Int32.ofInt 0)) 184 41 (Int32.ofInt 0)) 184 42 (Int32.ofInt 1)) 184 43 (Int32.ofInt 0)) := ⟨_, rfl⟩
    rw [← hu]
    have hufr : ∀ k i, ¬ (k = 184 ∧ (i = 0 ∨ (2 ≤ i ∧ i ≤ 5) ∨ i = 15 ∨ (39 ≤ i ∧ i ≤ 43))) → u.1 k i = w.1 k i := fun k i hk => by rw [hu, hs_u1_ne (by omega), hs_u1_ne (by omega), hs_u1_ne (by omega), hs_u1_ne (by omega), hs_u1_ne (by omega), hs_u1_ne (by omega), hs_u1_ne (by omega), hs_u1_ne (by omega), hs_u1_ne (by omega), hs_u1_ne (by omega), hs_u1_ne (by omega)]
    have hu2 : u.2 = w.2 := by rw [hu]; rfl
    have hu3 : (u.1 184 3).toInt = (n : Int) := by rw [hu]; exact ((show (((cm_u1 (cm_u1 (cm_u1 (cm_u1 (cm_u1 (cm_u1 (cm_u1 (cm_u1 (cm_u1 (cm_u1 (cm_u1 w 184 0 (Int32.ofInt 0)) 184 3 ((cm_u1 w 184 0 (Int32.ofInt 0)).1 184 2)) 184 2 (Int32.ofInt 0)) 184 4 (Int32.ofInt 0)) 184 5 ((Int16.ofInt 200).toInt32)) 184 15 (Int32.ofInt 0)) 184 39 (Int32.ofInt 0)) 184 40 (Int32.ofInt 0)) 184 41 (Int32.ofInt 0)) 184 42 (Int32.ofInt 1)) 184 43 (Int32.ofInt 0)).1 184 3)).toInt = ((n : Int) : Int) from hn).trans (by omega))
    have hu4 : (u.1 184 4).toInt = ((0 : Nat) : Int) := by rw [hu]; exact ((show (((cm_u1 (cm_u1 (cm_u1 (cm_u1 (cm_u1 (cm_u1 (cm_u1 (cm_u1 (cm_u1 (cm_u1 (cm_u1 w 184 0 (Int32.ofInt 0)) 184 3 ((cm_u1 w 184 0 (Int32.ofInt 0)).1 184 2)) 184 2 (Int32.ofInt 0)) 184 4 (Int32.ofInt 0)) 184 5 ((Int16.ofInt 200).toInt32)) 184 15 (Int32.ofInt 0)) 184 39 (Int32.ofInt 0)) 184 40 (Int32.ofInt 0)) 184 41 (Int32.ofInt 0)) 184 42 (Int32.ofInt 1)) 184 43 (Int32.ofInt 0)).1 184 4)).toInt = (0 : Int) from (show ((Int32.ofInt 0)).toInt = 0 from by decide)).trans (by omega))
    have hu5 : (u.1 184 5).toInt = ((200 : Nat) : Int) := by rw [hu]; exact ((show (((cm_u1 (cm_u1 (cm_u1 (cm_u1 (cm_u1 (cm_u1 (cm_u1 (cm_u1 (cm_u1 (cm_u1 (cm_u1 w 184 0 (Int32.ofInt 0)) 184 3 ((cm_u1 w 184 0 (Int32.ofInt 0)).1 184 2)) 184 2 (Int32.ofInt 0)) 184 4 (Int32.ofInt 0)) 184 5 ((Int16.ofInt 200).toInt32)) 184 15 (Int32.ofInt 0)) 184 39 (Int32.ofInt 0)) 184 40 (Int32.ofInt 0)) 184 41 (Int32.ofInt 0)) 184 42 (Int32.ofInt 1)) 184 43 (Int32.ofInt 0)).1 184 5)).toInt = (200 : Int) from (show (((Int16.ofInt 200).toInt32)).toInt = 200 from by decide)).trans (by omega))
    have hu15 : (u.1 184 15).toInt = 0 := by rw [hu]; exact ((show (((cm_u1 (cm_u1 (cm_u1 (cm_u1 (cm_u1 (cm_u1 (cm_u1 (cm_u1 (cm_u1 (cm_u1 (cm_u1 w 184 0 (Int32.ofInt 0)) 184 3 ((cm_u1 w 184 0 (Int32.ofInt 0)).1 184 2)) 184 2 (Int32.ofInt 0)) 184 4 (Int32.ofInt 0)) 184 5 ((Int16.ofInt 200).toInt32)) 184 15 (Int32.ofInt 0)) 184 39 (Int32.ofInt 0)) 184 40 (Int32.ofInt 0)) 184 41 (Int32.ofInt 0)) 184 42 (Int32.ofInt 1)) 184 43 (Int32.ofInt 0)).1 184 15)).toInt = (0 : Int) from (show ((Int32.ofInt 0)).toInt = 0 from by decide)).trans (by omega))
    have hu39 : (u.1 184 39).toInt = ((0 : Nat) : Int) := by rw [hu]; exact ((show (((cm_u1 (cm_u1 (cm_u1 (cm_u1 (cm_u1 (cm_u1 (cm_u1 (cm_u1 (cm_u1 (cm_u1 (cm_u1 w 184 0 (Int32.ofInt 0)) 184 3 ((cm_u1 w 184 0 (Int32.ofInt 0)).1 184 2)) 184 2 (Int32.ofInt 0)) 184 4 (Int32.ofInt 0)) 184 5 ((Int16.ofInt 200).toInt32)) 184 15 (Int32.ofInt 0)) 184 39 (Int32.ofInt 0)) 184 40 (Int32.ofInt 0)) 184 41 (Int32.ofInt 0)) 184 42 (Int32.ofInt 1)) 184 43 (Int32.ofInt 0)).1 184 39)).toInt = (0 : Int) from (show ((Int32.ofInt 0)).toInt = 0 from by decide)).trans (by omega))
    have hu40 : (u.1 184 40).toInt = ((0 : Nat) : Int) := by rw [hu]; exact ((show (((cm_u1 (cm_u1 (cm_u1 (cm_u1 (cm_u1 (cm_u1 (cm_u1 (cm_u1 (cm_u1 (cm_u1 (cm_u1 w 184 0 (Int32.ofInt 0)) 184 3 ((cm_u1 w 184 0 (Int32.ofInt 0)).1 184 2)) 184 2 (Int32.ofInt 0)) 184 4 (Int32.ofInt 0)) 184 5 ((Int16.ofInt 200).toInt32)) 184 15 (Int32.ofInt 0)) 184 39 (Int32.ofInt 0)) 184 40 (Int32.ofInt 0)) 184 41 (Int32.ofInt 0)) 184 42 (Int32.ofInt 1)) 184 43 (Int32.ofInt 0)).1 184 40)).toInt = (0 : Int) from (show ((Int32.ofInt 0)).toInt = 0 from by decide)).trans (by omega))
    have hu41 : (u.1 184 41).toInt = ((0 : Nat) : Int) := by rw [hu]; exact ((show (((cm_u1 (cm_u1 (cm_u1 (cm_u1 (cm_u1 (cm_u1 (cm_u1 (cm_u1 (cm_u1 (cm_u1 (cm_u1 w 184 0 (Int32.ofInt 0)) 184 3 ((cm_u1 w 184 0 (Int32.ofInt 0)).1 184 2)) 184 2 (Int32.ofInt 0)) 184 4 (Int32.ofInt 0)) 184 5 ((Int16.ofInt 200).toInt32)) 184 15 (Int32.ofInt 0)) 184 39 (Int32.ofInt 0)) 184 40 (Int32.ofInt 0)) 184 41 (Int32.ofInt 0)) 184 42 (Int32.ofInt 1)) 184 43 (Int32.ofInt 0)).1 184 41)).toInt = (0 : Int) from (show ((Int32.ofInt 0)).toInt = 0 from by decide)).trans (by omega))
    have hu42 : (u.1 184 42).toInt = ((1 : Nat) : Int) := by rw [hu]; exact ((show (((cm_u1 (cm_u1 (cm_u1 (cm_u1 (cm_u1 (cm_u1 (cm_u1 (cm_u1 (cm_u1 (cm_u1 (cm_u1 w 184 0 (Int32.ofInt 0)) 184 3 ((cm_u1 w 184 0 (Int32.ofInt 0)).1 184 2)) 184 2 (Int32.ofInt 0)) 184 4 (Int32.ofInt 0)) 184 5 ((Int16.ofInt 200).toInt32)) 184 15 (Int32.ofInt 0)) 184 39 (Int32.ofInt 0)) 184 40 (Int32.ofInt 0)) 184 41 (Int32.ofInt 0)) 184 42 (Int32.ofInt 1)) 184 43 (Int32.ofInt 0)).1 184 42)).toInt = (1 : Int) from (show ((Int32.ofInt 1)).toInt = 1 from by decide)).trans (by omega))
    have hu43 : (u.1 184 43).toInt = ((0 : Nat) : Int) := by rw [hu]; exact ((show (((cm_u1 (cm_u1 (cm_u1 (cm_u1 (cm_u1 (cm_u1 (cm_u1 (cm_u1 (cm_u1 (cm_u1 (cm_u1 w 184 0 (Int32.ofInt 0)) 184 3 ((cm_u1 w 184 0 (Int32.ofInt 0)).1 184 2)) 184 2 (Int32.ofInt 0)) 184 4 (Int32.ofInt 0)) 184 5 ((Int16.ofInt 200).toInt32)) 184 15 (Int32.ofInt 0)) 184 39 (Int32.ofInt 0)) 184 40 (Int32.ofInt 0)) 184 41 (Int32.ofInt 0)) 184 42 (Int32.ofInt 1)) 184 43 (Int32.ofInt 0)).1 184 43)).toInt = (0 : Int) from (show ((Int32.ofInt 0)).toInt = 0 from by decide)).trans (by omega))
    have hTu : rm_T u T n 200 := rm_T_fr (w := w) (fun i => hufr 185 i (by omega)) hu3 hu5 (fun i => by rw [hu2]) hT hb hn9 (by omega) hRw
    obtain ⟨u1, hCu, hSu, hRu⟩ := mn_ok (w := u) (p := 0) hTu hu4 (by omega)
    have hM0 : sr_M u1 T n 200 0 0 ([] ++ ([] : List Nat)).length (1 + sr_d []) 0 0 := ⟨⟨rm_T_S hTu hSu, hRu, Nat.zero_le _⟩, by rw [(hSu 184 15 (by omega)).1]; exact hu15, by rw [(hSu 184 40 (by omega)).1]; exact hu40, by rw [(hSu 184 41 (by omega)).1]; exact hu41, by rw [(hSu 184 42 (by omega)).1]; exact hu42, by rw [(hSu 184 39 (by omega)).1]; exact hu39, by rw [(hSu 184 43 (by omega)).1]; exact hu43⟩
    have hR1 : mv_R u1 h nm := mv_R_f2 (w := w) (fun i _ => ((hSu 186 i (by omega)).1).trans (hufr 186 i (by omega))) (fun i _ => ((hSu 189 i (by omega)).2).trans (by rw [hu2])) hRm
    refine wk_call (kd := 0) (i := 179) xd_4b3c5273 rfl (wk_cal (as := [.inr (.inr (some 184))]) (t := []) xl_2177e1df rfl xn_00af7311 xc_b2cf5bb1 rfl rfl xv_e7aa8f3d rfl) (cm_C_mono (by omega) hCu) ?_
    refine wk_iconst xd_15b22f49 ?_
    refine wk_istore_n xd_b50ee9a3 (by rw [xm_495561d5]; rfl) rfl ?_
    refine se_lp hR1 (se_all hR1 8) 21 0 0 0 [] [] 0 u1 (.inl rfl) (fun a ha => by cases ha) (sr_V_rf u1) hM0 trivial (by show 0 + 0 ≤ _; omega) (by omega) (by omega) (by omega) rfl ?_
    have hall : sp_all T n 200 h nm = (match sp_lp T n 200 (fun o p => sp_one T n 200 h nm 8 o p) 21 0 0 with
      | .inl e => (.inl e : (Nat × Nat) ⊕ Nat)
      | .inr z => if (tx_tk T n 200 z.2).1 = 0 then .inr z.1 else .inl (1, (tx_tk T n 200 z.2).2.1)) := rfl
    have fault : ∀ k q, sp_all T n 200 h nm = .inl (k, q) → se_F (fun o : cm_O => ∃ x w', o = (some (.inl x), w') ∧ ((∃ k q, sp_all T n 200 h nm = .inl (k, q) ∧ x = Int32.ofInt (-1) - Int32.ofInt (q : Int) ∧ (w'.1 184 15).toInt = (k : Int)) ∨ (∃ v, sp_all T n 200 h nm = .inr v ∧ x.toInt = (v : Int) ∧ (w'.1 184 15).toInt = 0))) u1 k q := fun k q e w' _ hB => by
      refine ⟨_, w', rfl, .inl ⟨k, q, e, ?_, hB.1⟩⟩
      rw [show w'.1 184 16 = Int32.ofInt (q : Int) from by rw [← hB.2, Int32.ofInt_toInt]]
    cases e9 : sp_lp T n 200 (fun o p => sp_one T n 200 h nm 8 o p) 21 0 0 with
    | inl e =>
      rw [e9] at hall
      exact fault e.1 e.2 hall
    | inr z =>
      rw [e9] at hall
      show se_L _ u1 T n 200 0 [] z.1 z.2
      intro hno w2 c2 l J hl hJ hV2 hM2 hK2 hin2 hlt hle
      refine se_end (.inl rfl) hl hJ hV2 hM2 hK2 hin2 hle hno (fun z9 => absurd rfl z9) (fun z9 => ?_) (fun z9 _ w3 c3 hV3 hM3 hc3 => ?_)
      · have z8 : (tx_tk T n 200 z.2).1 ≠ 0 := z9.elim id (fun z7 => absurd rfl z7)
        refine fault _ _ ?_
        rw [hall]
        exact if_neg z8
      · refine se_ex hc3 hM3.2.2.2.2.2.1 hM3.2.2.1 (fun x w4 hx hfr => ⟨x, w4, rfl, .inr ⟨z.1, ?_, hx, ?_⟩⟩)
        · rw [hall]
          exact if_pos z9
        · rw [hfr.1 184 15 (by omega)]
          exact hM3.2.1
  obtain ⟨oo, hC, x, w', rfl, a⟩ := h9
  exact ⟨x, w', hC, a⟩
