/-! ## the reference's valley, whole (wip/p4/gen9vr.py) -/
theorem ps_lv_79 {h : Nat → Int} {j : Nat} (hj : ps_lv h j) : j < 79 := by
  unfold ps_lv at hj
  rcases hj with hj | hj | hj | hj | hj | hj | hj | hj | hj | hj | hj
  all_goals omega
theorem ps_ln_16 {h : Nat → Int} {j : Nat} (hj : ps_ln h j) : j < 16 := by
  unfold ps_ln at hj
  rcases hj with hj | hj | hj
  all_goals omega
theorem ps_Q_eq {F : Nat → Nat} {f f' : Nat → Int} {g g' : Nat → Int64} {h : Nat → Int} {nm : Nat → Nat} (hQ : ps_Q F f g h nm) (h1 : ∀ j, j < 79 → f' j = f j) (h2 : ∀ j, j < 16 → g' j = g j) : ps_Q F f' g' h nm := ⟨fun j hj => (h1 j (ps_lv_79 hj)).trans (hQ.1 j hj), fun j hj => by rw [h2 j (ps_ln_16 hj)]; exact hQ.2.1 j hj, hQ.2.2⟩
theorem rm_T_fr {w w' : cm_W} {T : Nat → Int} {n m : Nat} (h1 : ∀ i, w'.1 185 i = w.1 185 i) (h3 : (w'.1 184 3).toInt = n) (h5 : (w'.1 184 5).toInt = m) (h4 : ∀ i, w'.2 190 i = w.2 190 i) (hT : ∀ j, j < 940 → (w.1 185 j &&& ((Int16.ofInt 255).toInt32)).toInt = T j) (hb : ∀ j, 0 ≤ T j ∧ T j ≤ 255) (hn : n ≤ 940) (hm : m ≤ 940) (hR : ∀ k, k < 22 → w.2 190 k = Int64.ofNat (tx_F (tx_rw.getD k 0))) : rm_T w' T n m := ⟨fun j hj => by rw [h1]; exact hT j hj, hb, h3, h5, hn, hm, fun k hk => by rw [h4]; exact hR k hk⟩
theorem mz_lp (w1 : cm_W) (Q : cm_O → Prop) (hk : ∀ (w : cm_W) (lk : Option cm_V), (∀ j, j < 79 → (w.1 187 j).toInt = 0) → (∀ k j, k ≠ 187 → w.1 k j = w1.1 k j ∧ w.2 k j = w1.2 k j) → cm_X (cm_C 7) 150 48 [some (.inr (.inr (some 184))), lk] [] w Q) : ∀ (d i : Nat) (z : Int32) (w : cm_W), d + i = 79 → z.toInt = (i : Int) → (∀ j, j < i → (w.1 187 j).toInt = 0) → (∀ k j, k ≠ 187 → w.1 k j = w1.1 k j ∧ w.2 k j = w1.2 k j) → cm_X (cm_C 7) 150 29 [some (.inr (.inr (some 184))), some (.inl z)] [] w Q := by
  intro d
  induction d with
  | zero =>
    intro i z w hi hz hI hF
    refine wk_iload_n xd_26e8bff4 rfl ?_
    refine wk_bipush xd_0635fbd4 ?_
    refine wk_icmp xd_52808b46 (t := 48) rfl (fun h32_0 => ?_) (fun h32_0 => ?_)
    · have h32_0 := aw_ge_t (a := ((i : Int) : Int)) (b := (79 : Int)) hz (show (((Int8.ofInt 79).toInt32)).toInt = 79 from by decide) h32_0
      have e9 : i = 79 := by omega
      subst e9
      exact hk w _ hI hF
    · have h32_0 := aw_ge_f (a := ((i : Int) : Int)) (b := (79 : Int)) hz (show (((Int8.ofInt 79).toInt32)).toInt = 79 from by decide) h32_0
      exfalso
      omega
  | succ d ih =>
    intro i z w hi hz hI hF
    refine wk_iload_n xd_26e8bff4 rfl ?_
    refine wk_bipush xd_0635fbd4 ?_
    refine wk_icmp xd_52808b46 (t := 48) rfl (fun h32_1 => ?_) (fun h32_1 => ?_)
    · have h32_1 := aw_ge_t (a := ((i : Int) : Int)) (b := (79 : Int)) hz (show (((Int8.ofInt 79).toInt32)).toInt = 79 from by decide) h32_1
      exfalso
      omega
    · have h32_1 := aw_ge_f (a := ((i : Int) : Int)) (b := (79 : Int)) hz (show (((Int8.ofInt 79).toInt32)).toInt = 79 from by decide) h32_1
      refine wk_aload_n xd_c04bc2bb rfl ?_
      refine wk_getR xf_cd4028f3 xd_c614fea8 ?_
      refine wk_iload_n xd_a7cddad3 rfl ?_
      refine wk_iconst xd_34af4738 ?_
      refine aw_iastore (i := i) xf_9cb75a54 hz (by omega) (by omega) xd_470013d8 ?_
      refine aw_iinc (a := ((i : Int) : Int)) (b := (1 : Int)) (e := ((i : Int) + 1 : Int)) xd_2411bf9c (by rw [xm_f50e82e6]; rfl) rfl rfl hz (show ((Int32.ofInt 1)).toInt = 1 from by decide) (by omega) (by omega) (by omega) (fun v3_ p3_ => ?_)
      refine wk_goto xd_f4e954f8 (t := 29) rfl ?_
      refine ih (i + 1) _ _ (by omega) (by omega) ?_ ?_
      · intro j hj
        by_cases e : j = i
        · rw [e, hs_u1_self]
          decide
        · rw [hs_u1_ne (by omega)]
          exact hI j (by omega)
      · exact fun k j hk9 => ⟨(hs_u1_ne (by omega)).trans (hF k j hk9).1, (hF k j hk9).2⟩
theorem ms_lp (w1 : cm_W) (Q : cm_O → Prop) (hk : ∀ (w : cm_W) (lk : Option cm_V), (∀ j, j < 301 → j < 79 → w.1 186 j = w1.1 187 j) → (∀ k j, k ≠ 186 → w.1 k j = w1.1 k j ∧ w.2 k j = w1.2 k j) → cm_X (cm_C 7) 150 140 [some (.inr (.inr (some 184))), lk] [] w Q) : ∀ (d i : Nat) (z : Int32) (w : cm_W), d + i = 301 → z.toInt = (i : Int) → (∀ j, j < i → j < 79 → w.1 186 j = w1.1 187 j) → (∀ k j, k ≠ 186 → w.1 k j = w1.1 k j ∧ w.2 k j = w1.2 k j) → cm_X (cm_C 7) 150 105 [some (.inr (.inr (some 184))), some (.inl z)] [] w Q := by
  intro d
  induction d with
  | zero =>
    intro i z w hi hz hI hF
    refine wk_iload_n xd_d137f515 rfl ?_
    refine wk_sipush xd_3d9bf043 ?_
    refine wk_icmp xd_f6538f6b (t := 140) rfl (fun h109_0 => ?_) (fun h109_0 => ?_)
    · have h109_0 := aw_ge_t (a := ((i : Int) : Int)) (b := (301 : Int)) hz (show (((Int16.ofInt 301).toInt32)).toInt = 301 from by decide) h109_0
      have e9 : i = 301 := by omega
      subst e9
      exact hk w _ hI hF
    · have h109_0 := aw_ge_f (a := ((i : Int) : Int)) (b := (301 : Int)) hz (show (((Int16.ofInt 301).toInt32)).toInt = 301 from by decide) h109_0
      exfalso
      omega
  | succ d ih =>
    intro i z w hi hz hI hF
    refine wk_iload_n xd_d137f515 rfl ?_
    refine wk_sipush xd_3d9bf043 ?_
    refine wk_icmp xd_f6538f6b (t := 140) rfl (fun h109_1 => ?_) (fun h109_1 => ?_)
    · have h109_1 := aw_ge_t (a := ((i : Int) : Int)) (b := (301 : Int)) hz (show (((Int16.ofInt 301).toInt32)).toInt = 301 from by decide) h109_1
      exfalso
      omega
    · have h109_1 := aw_ge_f (a := ((i : Int) : Int)) (b := (301 : Int)) hz (show (((Int16.ofInt 301).toInt32)).toInt = 301 from by decide) h109_1
      refine wk_aload_n xd_41c8f241 rfl ?_
      refine wk_getR xf_9682d9c8 xd_6b78c62d ?_
      refine wk_iload_n xd_26f7a90f rfl ?_
      refine wk_iload_n xd_bd8443db rfl ?_
      refine wk_bipush xd_f1b610a6 ?_
      refine wk_icmp xd_362ef30d (t := 132) rfl (fun h120_2 => ?_) (fun h120_2 => ?_)
      · have h120_2 := aw_ge_t (a := ((i : Int) : Int)) (b := (79 : Int)) hz (show (((Int8.ofInt 79).toInt32)).toInt = 79 from by decide) h120_2
        refine wk_iconst xd_d92fcc6b ?_
        refine aw_iastore (i := i) xf_31d67ad9 hz (by omega) (by omega) xd_7f086058 ?_
        refine aw_iinc (a := ((i : Int) : Int)) (b := (1 : Int)) (e := ((i : Int) + 1 : Int)) xd_9530a7cf (by rw [xm_f50e82e6]; rfl) rfl rfl hz (show ((Int32.ofInt 1)).toInt = 1 from by decide) (by omega) (by omega) (by omega) (fun v4_ p4_ => ?_)
        refine wk_goto xd_131bbe78 (t := 105) rfl ?_
        refine ih (i + 1) _ _ (by omega) (by omega) ?_ ?_
        · intro j hj hj2
          rw [hs_u1_ne (by omega)]
          exact hI j (by omega) hj2
        · exact fun k j hk9 => ⟨(hs_u1_ne (by omega)).trans (hF k j hk9).1, (hF k j hk9).2⟩
      · have h120_2 := aw_ge_f (a := ((i : Int) : Int)) (b := (79 : Int)) hz (show (((Int8.ofInt 79).toInt32)).toInt = 79 from by decide) h120_2
        refine wk_aload_n xd_82a5b1bd rfl ?_
        refine wk_getR xf_cd4028f3 xd_a2ff71bd ?_
        refine wk_iload_n xd_e59aeaf3 rfl ?_
        refine aw_iaload (i := i) xf_9cb75a54 hz (by omega) (by omega) xd_7af436d1 ?_
        refine wk_goto xd_a8e7b8a8 (t := 133) rfl ?_
        refine aw_iastore (i := i) xf_31d67ad9 hz (by omega) (by omega) xd_7f086058 ?_
        refine aw_iinc (a := ((i : Int) : Int)) (b := (1 : Int)) (e := ((i : Int) + 1 : Int)) xd_9530a7cf (by rw [xm_f50e82e6]; rfl) rfl rfl hz (show ((Int32.ofInt 1)).toInt = 1 from by decide) (by omega) (by omega) (by omega) (fun v5_ p5_ => ?_)
        refine wk_goto xd_131bbe78 (t := 105) rfl ?_
        refine ih (i + 1) _ _ (by omega) (by omega) ?_ ?_
        · intro j hj hj2
          by_cases e : j = i
          · rw [e, hs_u1_self]
            exact (hF 187 i (by omega)).1
          · rw [hs_u1_ne (by omega)]
            exact hI j (by omega) hj2
        · exact fun k j hk9 => ⟨(hs_u1_ne (by omega)).trans (hF k j hk9).1, (hF k j hk9).2⟩
theorem mn_lp (w1 : cm_W) (Q : cm_O → Prop) (hk : ∀ (w : cm_W) (lk : Option cm_V), ((∀ j, j < 16 → w.2 189 j = w1.2 189 (16 + j)) ∧ (∀ j, 16 ≤ j → w.2 189 j = w1.2 189 j)) → ((∀ k j, k ≠ 189 → w.2 k j = w1.2 k j) ∧ ∀ k j, w.1 k j = w1.1 k j) → cm_X (cm_C 7) 150 169 [some (.inr (.inr (some 184))), lk] [] w Q) : ∀ (d i : Nat) (z : Int32) (w : cm_W), d + i = 16 → z.toInt = (i : Int) → ((∀ j, j < i → w.2 189 j = w1.2 189 (16 + j)) ∧ (∀ j, i ≤ j → w.2 189 j = w1.2 189 j)) → ((∀ k j, k ≠ 189 → w.2 k j = w1.2 k j) ∧ ∀ k j, w.1 k j = w1.1 k j) → cm_X (cm_C 7) 150 142 [some (.inr (.inr (some 184))), some (.inl z)] [] w Q := by
  intro d
  induction d with
  | zero =>
    intro i z w hi hz hI hF
    refine wk_iload_n xd_ce88f3e4 rfl ?_
    refine wk_bipush xd_3bc0e509 ?_
    refine wk_icmp xd_a9f9adf3 (t := 169) rfl (fun h145_0 => ?_) (fun h145_0 => ?_)
    · have h145_0 := aw_ge_t (a := ((i : Int) : Int)) (b := (16 : Int)) hz (show (((Int8.ofInt 16).toInt32)).toInt = 16 from by decide) h145_0
      have e9 : i = 16 := by omega
      subst e9
      exact hk w _ hI hF
    · have h145_0 := aw_ge_f (a := ((i : Int) : Int)) (b := (16 : Int)) hz (show (((Int8.ofInt 16).toInt32)).toInt = 16 from by decide) h145_0
      exfalso
      omega
  | succ d ih =>
    intro i z w hi hz hI hF
    refine wk_iload_n xd_ce88f3e4 rfl ?_
    refine wk_bipush xd_3bc0e509 ?_
    refine wk_icmp xd_a9f9adf3 (t := 169) rfl (fun h145_1 => ?_) (fun h145_1 => ?_)
    · have h145_1 := aw_ge_t (a := ((i : Int) : Int)) (b := (16 : Int)) hz (show (((Int8.ofInt 16).toInt32)).toInt = 16 from by decide) h145_1
      exfalso
      omega
    · have h145_1 := aw_ge_f (a := ((i : Int) : Int)) (b := (16 : Int)) hz (show (((Int8.ofInt 16).toInt32)).toInt = 16 from by decide) h145_1
      refine wk_aload_n xd_44c499f6 rfl ?_
      refine wk_getR xf_89dd543d xd_07997336 ?_
      refine wk_iload_n xd_4fad96c3 rfl ?_
      refine wk_aload_n xd_b3bd86ca rfl ?_
      refine wk_getR xf_89dd543d xd_92b99ce3 ?_
      refine wk_bipush xd_bab921bd ?_
      refine wk_iload_n xd_39f1ecd8 rfl ?_
      refine aw_iadd (a := (16 : Int)) (b := ((i : Int) : Int)) (e := ((i : Int) + 16 : Int)) xd_90e8028f (show (((Int8.ofInt 16).toInt32)).toInt = 16 from by decide) hz (by omega) (by omega) (by omega) (fun v3_ p3_ => ?_)
      refine aw_laload (i := (16 + i)) xf_69b9f963 p3_ (by omega) (by omega) xd_769814da ?_
      refine aw_lastore (i := i) xf_69b9f963 hz (by omega) (by omega) xd_da0cb844 ?_
      refine aw_iinc (a := ((i : Int) : Int)) (b := (1 : Int)) (e := ((i : Int) + 1 : Int)) xd_6bc6d2c8 (by rw [xm_f50e82e6]; rfl) rfl rfl hz (show ((Int32.ofInt 1)).toInt = 1 from by decide) (by omega) (by omega) (by omega) (fun v4_ p4_ => ?_)
      refine wk_goto xd_bc26e903 (t := 142) rfl ?_
      refine ih (i + 1) _ _ (by omega) (by omega) ?_ ?_
      · refine ⟨fun j hj => ?_, fun j hj => ?_⟩
        · by_cases e : j = i
          · rw [e, tx_u2_self]
            exact hI.2 (16 + i) (by omega)
          · rw [tx_u2_ne (by omega)]
            exact hI.1 j (by omega)
        · rw [tx_u2_ne (by omega)]
          exact hI.2 j (by omega)
      · exact ⟨fun k j hk9 => (tx_u2_ne (by omega)).trans (hF.1 k j hk9), hF.2⟩
theorem mh_lp (w1 : cm_W) (Q : cm_O → Prop) (hk : ∀ (w : cm_W) (lk : Option cm_V), True → (∀ k j, ¬ (k = 186 ∧ 79 ≤ j) → w.1 k j = w1.1 k j) ∧ (∀ k j, w.2 k j = w1.2 k j) → cm_X (cm_C 7) 150 219 [some (.inr (.inr (some 184))), lk] [] w Q) : ∀ (d i : Nat) (z : Int32) (w : cm_W), d + i = 6 → z.toInt = (i : Int) → True → (∀ k j, ¬ (k = 186 ∧ 79 ≤ j) → w.1 k j = w1.1 k j) ∧ (∀ k j, w.2 k j = w1.2 k j) → cm_X (cm_C 7) 150 171 [some (.inr (.inr (some 184))), some (.inl z)] [] w Q := by
  intro d
  induction d with
  | zero =>
    intro i z w hi hz hI hF
    refine wk_iload_n xd_e07363f1 rfl ?_
    refine wk_bipush xd_b66dc762 ?_
    refine wk_icmp xd_e67df12f (t := 219) rfl (fun h174_0 => ?_) (fun h174_0 => ?_)
    · have h174_0 := aw_ge_t (a := ((i : Int) : Int)) (b := (6 : Int)) hz (show (((Int8.ofInt 6).toInt32)).toInt = 6 from by decide) h174_0
      have e9 : i = 6 := by omega
      subst e9
      exact hk w _ hI hF
    · have h174_0 := aw_ge_f (a := ((i : Int) : Int)) (b := (6 : Int)) hz (show (((Int8.ofInt 6).toInt32)).toInt = 6 from by decide) h174_0
      exfalso
      omega
  | succ d ih =>
    intro i z w hi hz hI hF
    refine wk_iload_n xd_e07363f1 rfl ?_
    refine wk_bipush xd_b66dc762 ?_
    refine wk_icmp xd_e67df12f (t := 219) rfl (fun h174_1 => ?_) (fun h174_1 => ?_)
    · have h174_1 := aw_ge_t (a := ((i : Int) : Int)) (b := (6 : Int)) hz (show (((Int8.ofInt 6).toInt32)).toInt = 6 from by decide) h174_1
      exfalso
      omega
    · have h174_1 := aw_ge_f (a := ((i : Int) : Int)) (b := (6 : Int)) hz (show (((Int8.ofInt 6).toInt32)).toInt = 6 from by decide) h174_1
      refine wk_aload_n xd_6adaeb56 rfl ?_
      refine wk_getR xf_9682d9c8 xd_4d403e78 ?_
      refine wk_bipush xd_bfd26309 ?_
      refine wk_iload_n xd_eef0bbd1 rfl ?_
      refine aw_iadd (a := (82 : Int)) (b := ((i : Int) : Int)) (e := ((i : Int) + 82 : Int)) xd_0f3dc31f (show (((Int8.ofInt 82).toInt32)).toInt = 82 from by decide) hz (by omega) (by omega) (by omega) (fun v3_ p3_ => ?_)
      refine wk_aload_n xd_64593376 rfl ?_
      refine wk_getR xf_9682d9c8 xd_877a97f3 ?_
      refine wk_bipush xd_a5045857 ?_
      refine wk_iload_n xd_82430d1f rfl ?_
      refine aw_iadd (a := (13 : Int)) (b := ((i : Int) : Int)) (e := ((i : Int) + 13 : Int)) xd_d6a3ffc2 (show (((Int8.ofInt 13).toInt32)).toInt = 13 from by decide) hz (by omega) (by omega) (by omega) (fun v4_ p4_ => ?_)
      refine aw_iaload (i := (13 + i)) xf_31d67ad9 p4_ (by omega) (by omega) xd_166a263c ?_
      refine aw_iastore (i := (82 + i)) xf_31d67ad9 p3_ (by omega) (by omega) xd_81fc0980 ?_
      refine wk_aload_n xd_e57c5651 rfl ?_
      refine wk_getR xf_9682d9c8 xd_60673164 ?_
      refine wk_bipush xd_74fe5da9 ?_
      refine wk_iload_n xd_e486e2d5 rfl ?_
      refine aw_iadd (a := (88 : Int)) (b := ((i : Int) : Int)) (e := ((i : Int) + 88 : Int)) xd_a7492fd5 (show (((Int8.ofInt 88).toInt32)).toInt = 88 from by decide) hz (by omega) (by omega) (by omega) (fun v5_ p5_ => ?_)
      refine wk_aload_n xd_6e73cbe1 rfl ?_
      refine wk_getR xf_9682d9c8 xd_f1a1b1d1 ?_
      refine wk_bipush xd_e527fb47 ?_
      refine wk_iload_n xd_e43fa1f3 rfl ?_
      refine aw_iadd (a := (19 : Int)) (b := ((i : Int) : Int)) (e := ((i : Int) + 19 : Int)) xd_757fc40e (show (((Int8.ofInt 19).toInt32)).toInt = 19 from by decide) hz (by omega) (by omega) (by omega) (fun v6_ p6_ => ?_)
      refine aw_iaload (i := (19 + i)) xf_31d67ad9 p6_ (by omega) (by omega) xd_c02ef486 ?_
      refine aw_iastore (i := (88 + i)) xf_31d67ad9 p5_ (by omega) (by omega) xd_b867137b ?_
      refine aw_iinc (a := ((i : Int) : Int)) (b := (1 : Int)) (e := ((i : Int) + 1 : Int)) xd_4561e34e (by rw [xm_f50e82e6]; rfl) rfl rfl hz (show ((Int32.ofInt 1)).toInt = 1 from by decide) (by omega) (by omega) (by omega) (fun v7_ p7_ => ?_)
      refine wk_goto xd_28ad1ecc (t := 171) rfl ?_
      refine ih (i + 1) _ _ (by omega) (by omega) ?_ ?_
      · exact trivial
      · exact ⟨fun k j hk9 => (hs_u1_ne (by omega)).trans ((hs_u1_ne (by omega)).trans (hF.1 k j hk9)), hF.2⟩
theorem mf_lp2 (w1 : cm_W) (Q : cm_O → Prop) (hk : ∀ (w : cm_W) (lk : Option cm_V), True → (∀ k j, ¬ (k = 186 ∧ 79 ≤ j) → w.1 k j = w1.1 k j) ∧ (∀ k j, w.2 k j = w1.2 k j) → cm_X (cm_C 7) 150 250 [some (.inr (.inr (some 184))), lk] [] w Q) : ∀ (d i : Nat) (z : Int32) (w : cm_W), d + i = 4 → z.toInt = (i : Int) → True → (∀ k j, ¬ (k = 186 ∧ 79 ≤ j) → w.1 k j = w1.1 k j) ∧ (∀ k j, w.2 k j = w1.2 k j) → cm_X (cm_C 7) 150 221 [some (.inr (.inr (some 184))), some (.inl z)] [] w Q := by
  intro d
  induction d with
  | zero =>
    intro i z w hi hz hI hF
    refine wk_iload_n xd_3dbd2eda rfl ?_
    refine wk_iconst xd_efc22957 ?_
    refine wk_icmp xd_3e252cec (t := 250) rfl (fun h223_0 => ?_) (fun h223_0 => ?_)
    · have h223_0 := aw_ge_t (a := ((i : Int) : Int)) (b := (4 : Int)) hz (show ((Int32.ofInt 4)).toInt = 4 from by decide) h223_0
      have e9 : i = 4 := by omega
      subst e9
      exact hk w _ hI hF
    · have h223_0 := aw_ge_f (a := ((i : Int) : Int)) (b := (4 : Int)) hz (show ((Int32.ofInt 4)).toInt = 4 from by decide) h223_0
      exfalso
      omega
  | succ d ih =>
    intro i z w hi hz hI hF
    refine wk_iload_n xd_3dbd2eda rfl ?_
    refine wk_iconst xd_efc22957 ?_
    refine wk_icmp xd_3e252cec (t := 250) rfl (fun h223_1 => ?_) (fun h223_1 => ?_)
    · have h223_1 := aw_ge_t (a := ((i : Int) : Int)) (b := (4 : Int)) hz (show ((Int32.ofInt 4)).toInt = 4 from by decide) h223_1
      exfalso
      omega
    · have h223_1 := aw_ge_f (a := ((i : Int) : Int)) (b := (4 : Int)) hz (show ((Int32.ofInt 4)).toInt = 4 from by decide) h223_1
      refine wk_aload_n xd_2c674ca9 rfl ?_
      refine wk_getR xf_9682d9c8 xd_d1064ced ?_
      refine wk_bipush xd_02452d7a ?_
      refine wk_iload_n xd_ca7d72c0 rfl ?_
      refine aw_iadd (a := (100 : Int)) (b := ((i : Int) : Int)) (e := ((i : Int) + 100 : Int)) xd_eb4d1f9d (show (((Int8.ofInt 100).toInt32)).toInt = 100 from by decide) hz (by omega) (by omega) (by omega) (fun v3_ p3_ => ?_)
      refine wk_aload_n xd_40d4fa67 rfl ?_
      refine wk_getR xf_9682d9c8 xd_a67dcc27 ?_
      refine wk_bipush xd_4dadfb49 ?_
      refine wk_iload_n xd_16f3965e rfl ?_
      refine aw_iadd (a := (29 : Int)) (b := ((i : Int) : Int)) (e := ((i : Int) + 29 : Int)) xd_a4a7ff55 (show (((Int8.ofInt 29).toInt32)).toInt = 29 from by decide) hz (by omega) (by omega) (by omega) (fun v4_ p4_ => ?_)
      refine aw_iaload (i := (29 + i)) xf_31d67ad9 p4_ (by omega) (by omega) xd_e2a43e69 ?_
      refine aw_iastore (i := (100 + i)) xf_31d67ad9 p3_ (by omega) (by omega) xd_6c346725 ?_
      refine aw_iinc (a := ((i : Int) : Int)) (b := (1 : Int)) (e := ((i : Int) + 1 : Int)) xd_bb979649 (by rw [xm_f50e82e6]; rfl) rfl rfl hz (show ((Int32.ofInt 1)).toInt = 1 from by decide) (by omega) (by omega) (by omega) (fun v5_ p5_ => ?_)
      refine wk_goto xd_12fae68a (t := 221) rfl ?_
      refine ih (i + 1) _ _ (by omega) (by omega) ?_ ?_
      · exact trivial
      · exact ⟨fun k j hk9 => (hs_u1_ne (by omega)).trans (hF.1 k j hk9), hF.2⟩
theorem mk_ok {w : cm_W} {a : Int32} : cm_C 1 145 [.inr (.inr (some 184)), .inl a] w (none, (cm_u1 (cm_u1 (cm_u1 (cm_u1 w 184 3 (w.1 184 2)) 184 2 (Int32.ofInt 0)) 184 4 (Int32.ofInt 0)) 184 5 a)) := by
  have h : ∃ o, cm_C (0 + 1) 145 [.inr (.inr (some 184)), .inl a] w o ∧ (fun o : cm_O => o = (none, (cm_u1 (cm_u1 (cm_u1 (cm_u1 w 184 3 (w.1 184 2)) 184 2 (Int32.ofInt 0)) 184 4 (Int32.ofInt 0)) 184 5 a))) o := by
    refine wk_entry (by rw [xm_f6b2de33]; exact Nat.le_of_ble_eq_true rfl) ?_
    rw [show cm_ent 145 [.inr (.inr (some 184)), .inl a] = [some (.inr (.inr (some 184))), some (.inl a)] from by unfold cm_ent; rw [xm_f6b2de33]; rfl]
    refine wk_aload_n xd_9433b486 rfl ?_
    refine wk_aload_n xd_0f405e52 rfl ?_
    refine wk_getI xf_6d2acb00 xd_295b0ca7 ?_
    refine wk_putI xf_a1e3306e (fun ci => wk_fitI ci) xd_0808c022 ?_
    refine wk_aload_n xd_948af7a0 rfl ?_
    refine wk_iconst xd_01d57e60 ?_
    refine wk_putI xf_1ae1d5e2 (fun ci => wk_fitI ci) xd_0304c9d1 ?_
    refine wk_aload_n xd_fac2f1d7 rfl ?_
    refine wk_iconst xd_5024b477 ?_
    refine wk_putI xf_cdde7e4d (fun ci => wk_fitI ci) xd_1377d155 ?_
    refine wk_aload_n xd_8c9e8bcc rfl ?_
    refine wk_iload_n xd_708e9bc5 rfl ?_
    refine wk_putI xf_5845c865 (fun ci => wk_fitI ci) xd_77f66928 ?_
    exact wk_return xd_dd65252c xr_fe04cad7 rfl
  obtain ⟨o, hC, rfl⟩ := h
  exact hC
def mv_V (w w' : cm_W) : Prop := ∀ k i, ¬ (k = 184 ∧ (i = 0 ∨ (2 ≤ i ∧ i ≤ 5) ∨ (11 ≤ i ∧ i ≤ 20) ∨ i = 23)) → k ≠ 187 → ¬ (k = 189 ∧ 16 ≤ i) → w'.1 k i = w.1 k i ∧ w'.2 k i = w.2 k i
theorem mv_V_W {w w1 w2 : cm_W} (h1 : mv_V w w1) (h2 : cr_W w1 w2) : mv_V w w2 := fun k i a b c => ⟨(h2 k i (by omega) b c).1.trans (h1 k i a b c).1, (h2 k i (by omega) b c).2.trans (h1 k i a b c).2⟩
theorem mv_ok {w : cm_W} {T : Nat → Int} {n : Nat} (hT : ∀ j, j < 940 → (w.1 185 j &&& ((Int16.ofInt 255).toInt32)).toInt = T j) (hb : ∀ j, 0 ≤ T j ∧ T j ≤ 255) (hn : (w.1 184 2).toInt = (n : Int)) (hn9 : n ≤ 940) (hR : ∀ k, k < 22 → w.2 190 k = Int64.ofNat (tx_F (tx_rw.getD k 0))) : ∃ x w', cm_C 8 150 [.inr (.inr (some 184))] w (some (.inl x), w') ∧ ((∃ k q, ps_all T n = .inl (k, q) ∧ x = Int32.ofInt (-1 - (q : Int)) ∧ cr_B w' k q ∧ mv_V w w') ∨ (∃ l h nm, ps_all T n = .inr (l, h, nm) ∧ x.toInt = (l : Int) ∧ l ≤ 900 ∧ (w'.1 184 15).toInt = 0 ∧ mv_R w' h nm ∧ (∀ k i, ¬ (k = 184 ∧ (i = 0 ∨ (2 ≤ i ∧ i ≤ 5) ∨ (11 ≤ i ∧ i ≤ 20) ∨ i = 23)) → k ≠ 187 → k ≠ 186 → k ≠ 189 → w'.1 k i = w.1 k i ∧ w'.2 k i = w.2 k i))) := by
  have h : ∃ o, cm_C (7 + 1) 150 [.inr (.inr (some 184))] w o ∧ (fun o : cm_O => ∃ x w', o = (some (.inl x), w') ∧ ((∃ k q, ps_all T n = .inl (k, q) ∧ x = Int32.ofInt (-1 - (q : Int)) ∧ cr_B w' k q ∧ mv_V w w') ∨ (∃ l h nm, ps_all T n = .inr (l, h, nm) ∧ x.toInt = (l : Int) ∧ l ≤ 900 ∧ (w'.1 184 15).toInt = 0 ∧ mv_R w' h nm ∧ (∀ k i, ¬ (k = 184 ∧ (i = 0 ∨ (2 ≤ i ∧ i ≤ 5) ∨ (11 ≤ i ∧ i ≤ 20) ∨ i = 23)) → k ≠ 187 → k ≠ 186 → k ≠ 189 → w'.1 k i = w.1 k i ∧ w'.2 k i = w.2 k i)))) o := by
    refine wk_entry (by rw [xm_f50e82e6]; exact Nat.le_of_ble_eq_true rfl) ?_
    rw [show cm_ent 150 [.inr (.inr (some 184))] = [some (.inr (.inr (some 184))), none] from by unfold cm_ent; rw [xm_f50e82e6]; rfl]
    refine wk_aload_n xd_37369f8e rfl ?_
    refine wk_iconst xd_01bd2402 ?_
    refine wk_putI xf_7e9d8d84 (fun ci => wk_fitI ci) xd_1f1b4468 ?_
    refine wk_aload_n xd_ac19d4c9 rfl ?_
    refine wk_sipush xd_d396fbf0 ?_
    refine wk_call (kd := 0) (i := 232) xd_267f666a rfl (wk_cal (as := [.inr (.inr (some 184)), .inl ((Int16.ofInt 900).toInt32)]) (t := []) xl_6bf56d51 rfl xn_8a0f2cb7 xc_11bee548 rfl rfl xv_8b88ab9c rfl) (cm_C_mono (by omega) (mk_ok (w := (cm_u1 w 184 0 (Int32.ofInt 0))) (a := ((Int16.ofInt 900).toInt32)))) ?_
    refine wk_aload_n xd_6fc9961a rfl ?_
    refine wk_iconst xd_96f8a13f ?_
    refine wk_putI xf_85fec3ab (fun ci => wk_fitI ci) xd_70fd50d9 ?_
    refine wk_aload_n xd_f4e6dd5d rfl ?_
    refine wk_iconst xd_16c32a7f ?_
    refine wk_putI xf_0c5254ac (fun ci => wk_fitI ci) xd_f3b89562 ?_
    refine wk_aload_n xd_37d73f32 rfl ?_
    refine wk_iconst xd_e01d9802 ?_
    refine wk_putI xf_04850f46 (fun ci => wk_fitI ci) xd_6378fe4a ?_
    refine wk_iconst xd_bcbc0b02 ?_
    refine wk_istore_n xd_5ec757e8 (by rw [xm_f50e82e6]; rfl) rfl ?_
    refine mz_lp (cm_u1 (cm_u1 (cm_u1 (cm_u1 (cm_u1 (cm_u1 (cm_u1 (cm_u1 w 184 0 (Int32.ofInt 0)) 184 3 ((cm_u1 w 184 0 (Int32.ofInt 0)).1 184 2)) 184 2 (Int32.ofInt 0)) 184 4 (Int32.ofInt 0)) 184 5 ((Int16.ofInt 900).toInt32)) 184 15 (Int32.ofInt 0)) 184 19 (Int32.ofInt 0)) 184 20 (Int32.ofInt 0)) _ (fun w2 lk2 h2I h2F => ?_) 79 0 _ _ rfl (by decide) (fun j hj => absurd hj (Nat.not_lt_zero j)) (fun _ _ _ => ⟨rfl, rfl⟩)
    have hT2 : rm_T (cm_u1 w2 187 4 ((Int8.ofInt 10).toInt32)) T n 900 := rm_T_fr (w := w) (fun i => (hs_u1_ne (by omega)).trans ((h2F 185 i (by omega)).1.trans (by rfl))) ?_ ?_ (fun i => ((h2F 190 i (by omega)).2.trans (by rfl))) hT hb hn9 (by omega) hR
    · skip
      refine wk_aload_n xd_6ac5fdad rfl ?_
      refine wk_getR xf_cd4028f3 xd_fc8cea91 ?_
      refine wk_iconst xd_740cc2ac ?_
      refine wk_bipush xd_1ba411d5 ?_
      refine aw_iastore (i := 4) xf_9cb75a54 (show ((Int32.ofInt 4)).toInt = 4 from by decide) (by omega) (by omega) xd_42d173a3 ?_
      refine wk_aload_n xd_0693a9d6 rfl ?_
      obtain ⟨w3, hC3, hS3, hR3⟩ := mn_ok (w := (cm_u1 w2 187 4 ((Int8.ofInt 10).toInt32))) (p := 0) hT2 (by rw [hs_u1_ne (by omega), (h2F 184 4 (by omega)).1]; exact (by decide : (Int32.ofInt 0).toInt = ((0 : Nat) : Int))) (Nat.zero_le n)
      refine wk_call (kd := 0) (i := 179) xd_14092008 rfl (wk_cal (as := [.inr (.inr (some 184))]) (t := []) xl_eee9f617 rfl xn_00af7311 xc_b2cf5bb1 rfl rfl xv_e7aa8f3d rfl) (cm_C_mono (by omega) hC3) ?_
      have hM3 : cr_M w3 T n 900 0 (mv_H w3) (mv_N w3) 0 0 := ⟨⟨rm_T_S hT2 hS3, hR3, Nat.zero_le n⟩, by rw [(hS3 184 15 (by omega)).1, hs_u1_ne (by omega), (h2F 184 15 (by omega)).1]; exact (by decide : (Int32.ofInt 0).toInt = 0), rfl, rfl, by rw [(hS3 184 20 (by omega)).1, hs_u1_ne (by omega), (h2F 184 20 (by omega)).1]; rfl, .inl rfl, .inl rfl⟩
      have hQ3 : ps_Q tx_F (mv_H w3) (mv_N w3) ps_h0 (fun _ => 0) := by
        have e3 : ∀ j, (w3.1 187 j) = (cm_u1 w2 187 4 ((Int8.ofInt 10).toInt32)).1 187 j := fun j => (hS3 187 j (by omega)).1
        have z0 : ps_h0 0 = 0 := rfl
        have z1 : ps_h0 1 = 0 := rfl
        have z2 : ps_h0 2 = 0 := rfl
        have z3 : ps_h0 3 = 0 := rfl
        refine ⟨fun j hj => ?_, fun j hj => ?_, ?_⟩
        · unfold ps_lv at hj
          rw [z0, z1, z2, z3] at hj
          have hj7 : j < 7 := by omega
          show (w3.1 187 j).toInt = ps_h0 j
          rw [e3]
          by_cases e4 : j = 4
          · rw [e4, hs_u1_self]
            decide
          · rw [hs_u1_ne (by omega), h2I j (by omega)]
            exact (if_neg e4).symm
        · exfalso
          unfold ps_ln at hj
          rw [z0, z1, z2] at hj
          omega
        · unfold ps_bd
          rw [z0, z1, z2, z3]
          omega
      have hV3 : mv_V w w3 := fun k i hk1 hk2 hk3 => ⟨((hS3 k i (by omega)).1.trans ((hs_u1_ne (by omega)).trans (h2F k i (by omega)).1)).trans ((hs_u1_ne (by omega)).trans ((hs_u1_ne (by omega)).trans ((hs_u1_ne (by omega)).trans ((hs_u1_ne (by omega)).trans ((hs_u1_ne (by omega)).trans ((hs_u1_ne (by omega)).trans ((hs_u1_ne (by omega)).trans ((hs_u1_ne (by omega)).trans (rfl))))))))), ((hS3 k i (by omega)).2.trans ((show (cm_u1 w2 187 4 ((Int8.ofInt 10).toInt32)).2 k i = w2.2 k i from rfl).trans (h2F k i (by omega)).2)).trans rfl⟩
      have hl3 : (w3.1 184 19).toInt = ((0 : Nat) : Int) := by rw [(hS3 184 19 (by omega)).1, hs_u1_ne (by omega), (h2F 184 19 (by omega)).1]; exact (by decide : (Int32.ofInt 0).toInt = ((0 : Nat) : Int))
      refine cr_al (w0 := w3) (T := T) (n := n) _ (fun w4 l h nm lk4 hA hVr hf0 hl4 hl9 hQ => ?_) (fun x4 w4 k4 q4 hA hVr hB4 hx4 => ?_) 901 0 _ _ rfl hl3 (Nat.le_refl 0) (by omega) rfl (cr_W_rf w3) hM3 hQ3
      · have hVw := mv_V_W hV3 hVr
        refine wk_iconst xd_b8e29196 ?_
        refine wk_istore_n xd_893d5a4c (by rw [xm_f50e82e6]; rfl) rfl ?_
        refine ms_lp w4 _ (fun wa lka haI haF => ?_) 301 0 _ _ rfl (by decide) (fun j hj => absurd hj (Nat.not_lt_zero j)) (fun _ _ _ => ⟨rfl, rfl⟩)
        refine wk_iconst xd_81c69d45 ?_
        refine wk_istore_n xd_9aa3ebcf (by rw [xm_f50e82e6]; rfl) rfl ?_
        refine mn_lp wa _ (fun wb lkb hbI hbF => ?_) 16 0 _ _ rfl (by decide) ⟨fun j hj => absurd hj (Nat.not_lt_zero j), fun _ _ => rfl⟩ ⟨fun _ _ _ => rfl, fun _ _ => rfl⟩
        refine wk_iconst xd_c23b0c6c ?_
        refine wk_istore_n xd_2e6b38bb (by rw [xm_f50e82e6]; rfl) rfl ?_
        refine mh_lp wb _ (fun wc lkc hcI hcF => ?_) 6 0 _ _ rfl (by decide) trivial ⟨fun _ _ _ => rfl, fun _ _ => rfl⟩
        refine wk_iconst xd_ec9c3dea ?_
        refine wk_istore_n xd_820a0fb6 (by rw [xm_f50e82e6]; rfl) rfl ?_
        refine mf_lp2 wc _ (fun w6 lk6 hdI hdF => ?_) 4 0 _ _ rfl (by decide) trivial ⟨fun _ _ _ => rfl, fun _ _ => rfl⟩
        have h3I := haI
        have h3F := haF
        have h4I := hbI
        have h4F := hbF
        have h5F := hcF
        have h6F := hdF
        have hl6 : (w6.1 184 19).toInt = (l : Int) := by rw [h6F.1 184 19 (by omega), h5F.1 184 19 (by omega), h4F.2 184 19, (h3F 184 19 (by omega)).1]; exact hl4
        refine wk_aload_n xd_f0b509a4 rfl ?_
        refine wk_iconst xd_5583ba79 ?_
        refine wk_putI xf_e41a6343 (fun ci => wk_fitI ci) xd_01437f06 ?_
        refine wk_aload_n xd_6b9a42e3 rfl ?_
        refine wk_getI xf_7ec374f2 xd_540ea974 ?_
        refine wk_ireturn xd_1d17f86f xr_ef4a27ad rfl ⟨_, _, rfl, .inr ⟨l, h, nm, hA, hl6, hl9, ?_, ?_, ?_⟩⟩
        · show (w6.1 184 15).toInt = 0
          rw [h6F.1 184 15 (by omega), h5F.1 184 15 (by omega), h4F.2 184 15, (h3F 184 15 (by omega)).1]
          exact hf0
        · refine ps_Q_eq hQ (fun j hj => ?_) (fun j hj => ?_)
          · show (w6.1 186 j).toInt = _
            rw [h6F.1 186 j (by omega), h5F.1 186 j (by omega), h4F.2 186 j, h3I j (by omega) hj]
          · show w6.2 189 j = _
            rw [h6F.2 189 j, h5F.2 189 j, h4I.1 j hj, (h3F 189 (16 + j) (by omega)).2]
        · intro k i hk1 hk2 hk3 hk4
          refine ⟨(hs_u1_ne (by omega)).trans ?_, ?_⟩
          · rw [h6F.1 k i (by omega), h5F.1 k i (by omega), h4F.2 k i, (h3F k i (by omega)).1]
            exact (hVw k i hk1 hk2 (by omega)).1
          · show w6.2 k i = _
            rw [h6F.2 k i, h5F.2 k i, h4F.1 k i hk4, (h3F k i (by omega)).2]
            exact (hVw k i hk1 hk2 (by omega)).2
      · exact ⟨_, _, rfl, .inl ⟨k4, q4, hA, hx4, hB4, mv_V_W hV3 hVr⟩⟩
    · rw [hs_u1_ne (by omega), (h2F 184 3 (by omega)).1]
      exact hn
    · rw [hs_u1_ne (by omega), (h2F 184 5 (by omega)).1]
      exact (by decide : ((Int16.ofInt 900).toInt32).toInt = ((900 : Nat) : Int))
  obtain ⟨o, hC, x, w', rfl, a⟩ := h
  exact ⟨x, w', hC, a⟩
