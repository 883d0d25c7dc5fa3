/-! ## what the Statement gives at the law's entry -/
theorem ia_nw_of {w : Cond} {Ar : Array Value} {U : State} (hn : ia_isN w = true) (h : w.before Ar U = true) : va_Nw w U := by
  cases w <;> first | exact va_Nw.of rfl h | cases hn
set_option maxRecDepth 100000 in
theorem lx_el : ∀ j, j < 115 → Cond.eq (.elem (.field (.string RX5 19) "java/lang/String" "value" "[B") (.int (Int32.ofNat j))) (.int (ia_by.getD j 0)) ∈ flatC (Jvm.Cond.and given_1 narrow_1) := by decide +kernel
set_option maxRecDepth 100000 in
theorem lx_elA : ∀ j, j < 35 → Cond.eq (.elem (.static "HungerDays$Plates" "ALL" "[I") (.int (Int32.ofNat j))) (.int (Int32.ofInt (ia_arA.getD j 0))) ∈ flatC (Jvm.Cond.and given_1 narrow_1) := by decide +kernel
set_option maxRecDepth 100000 in
theorem lx_elH : ∀ j, j < 5 → Cond.eq (.elem (.static "HungerDays$Plates" "HOW_MANY" "[I") (.int (Int32.ofNat j))) (.int (Int32.ofInt (ia_arH.getD j 0))) ∈ flatC (Jvm.Cond.and given_1 narrow_1) := by decide +kernel
theorem lx_Ar {args : Array Value} {s : State} {A : Nat → Prop} (hts : ∀ w ∈ lw_tbl, w.before args s = true) (hs : ∀ w ∈ flatC (Jvm.Cond.and given_1 narrow_1), w.before args s = true) (hA : ∀ a : Nat, a < s.heap.size → ¬ A a) (p1 p2 : Nat) (nm : String) (li : List Int) (h1 : ia_w p1 = .laysStatic "HungerDays$Plates" nm "[I") (h2 : ia_w p2 = .initialized "HungerDays$Plates") (hl : li.length < 1000) (h3 : Cond.arrayOf (.static "HungerDays$Plates" nm "[I") .int ∈ flatC (Jvm.Cond.and given_1 narrow_1)) (h4 : Cond.eq (.length (.static "HungerDays$Plates" nm "[I")) (.int (Int32.ofNat li.length)) ∈ flatC (Jvm.Cond.and given_1 narrow_1)) (h5 : ∀ j, j < li.length → Cond.eq (.elem (.static "HungerDays$Plates" nm "[I") (.int (Int32.ofNat j))) (.int (Int32.ofInt (li.getD j 0))) ∈ flatC (Jvm.Cond.and given_1 narrow_1)) : ia_Ar nm li A s s.heap := by
  obtain ⟨t, ht, hT⟩ := va_Tof (N := li.length) (f := fun j => .int (Int32.ofInt (li.getD j 0))) (A := A) (by omega) (hs _ h3) (va_eqt (hs _ h4)) (fun j hj => va_eqt (hs _ (h5 j hj))) hA
  exact ⟨t, va_Zof (hts _ (ia_w_in h1 (by intro z; cases z))) (hts _ (ia_w_in h2 (by intro z; cases z))) ht hA, hT⟩
section LX3
variable {p : Program} {l : Launch} {e : Env} {s : State} {m : MethodId} {below : List Frame} {meth : Method} {c : Code} {b L : Nat} {xs : Nat → Int32} {D : va_G} {sa : Nat × Nat} {as0 : List Nat} {nc ns : Nat}
set_option maxRecDepth 100000 in
theorem lx_N (C0 : lw_At p s m meth c b L xs) : ∃ sa, ia_N sa (fun q : Nat => s.heap.size ≤ q) s s.heap := by
  obtain ⟨hx, hb, hr, hml, hown, hts, hX, hbl, hlocks, hgv⟩ := id C0
  have hs := flat_of_before _ hgv
  have hA : ∀ a : Nat, a < s.heap.size → ¬ (fun q : Nat => s.heap.size ≤ q) a := fun a h => Nat.not_le.mpr h
  obtain ⟨adK, adV, hS, hev⟩ := vk_Sof (args := #[Value.ref b]) (s := s) (N := 1) (tm := fun _ => Term.string RX5 19) (len := [115]) (byt := [ia_by]) (A := fun q : Nat => s.heap.size ≤ q)
    (fun i hi => by have : i = 0 := by omega
                    subst this; decide)
    (fun i hi => hs _ (by decide +kernel)) (fun i hi => hs _ (by decide +kernel)) (fun i hi => hs _ (by decide +kernel))
    (fun i hi => by have : i = 0 := by omega
                    subst this; exact hs _ (by decide +kernel))
    (fun i hi j hj => by have : i = 0 := by omega
                         subst this; exact hs _ (lx_el j hj))
    (fun i j hi hj hne => absurd (by omega) hne) hA
  refine ⟨(adK 0, adV 0), fun w hw => ?_, ?_, ?_, ?_, ?_, ?_, ?_, lx_Ar hts hs hA 1035 128 "ALL" ia_arA (by decide +kernel) (by decide +kernel) (by decide) (by decide +kernel) (by decide +kernel) lx_elA, lx_Ar hts hs hA 1047 128 "HOW_MANY" ia_arH (by decide +kernel) (by decide +kernel) (by decide) (by decide +kernel) (by decide +kernel) lx_elH⟩
  · have hN := ia_Np_ok w hw
    exact ia_nw_of hN (hts _ (ia_w_in rfl (fun z => by rw [z] at hN; cases hN)))
  · exact va_AO.of (hts _ (ia_w_in (p := 472) (w := .arrayOver (.object RX3)) (by decide +kernel) (by intro z; cases z)))
  · exact va_AO.of (hts _ (ia_w_in (p := 458) (w := .arrayOver (.object RX7)) (by decide +kernel) (by intro z; cases z)))
  · exact vk_R.of (hts _ (ia_w_in (p := 152) (w := .stringRef RX5 19 ia_tx) (by decide +kernel) (by intro z; cases z))) (hev 0 (by decide))
  · refine ⟨fun i hi => ?_, fun i j hi hj _ => by omega⟩
    have : i = 0 := by omega
    subst this
    exact hS.1 0 hi
  · exact va_Zof (hts _ (ia_w_in (p := 162) (w := .laysStatic "java/lang/String" "COMPACT_STRINGS" "Z") (by decide +kernel) (by intro z; cases z))) (hts _ (ia_w_in (p := 116) (w := .initialized "java/lang/String") (by decide +kernel) (by intro z; cases z))) (va_eqi (hs _ (by decide +kernel))) hA
  · exact va_Zqof (hts _ (ia_w_in (p := 178) (w := .laysStatic "jdk/internal/util/Preconditions" "SIOOBE_FORMATTER" "Ljava/util/function/BiFunction;") (by decide +kernel) (by intro z; cases z))) (hts _ (ia_w_in (p := 118) (w := .initialized "jdk/internal/util/Preconditions") (by decide +kernel) (by intro z; cases z))) (hs _ (by decide +kernel)) hA
/-- the classes, as the tables know them -/
theorem lx_K (C0 : lw_At p s m meth c b L xs) : ∃ D : va_G, va_K D vwCl [] s := by
  obtain ⟨hx, hb, hr, hml, hown, hts, hX, hbl, hlocks, hgv⟩ := id C0
  have h0 : ∀ k : Nat, ∃ q : ClassId × (Nat → Nat), ∀ r, vwCl[k]? = some r → u_Kn s r.1 r.2.1 r.2.2 q.1 q.2 := by
    intro k
    cases hk : vwCl[k]? with
    | none => exact ⟨(0, fun _ => 0), fun r h => by cases h⟩
    | some r =>
      obtain ⟨g1, g2, g3, -⟩ := ia_okC_at hk
      obtain ⟨cC, iS, hKn⟩ := u_known (C := r.1) (T := r.2.1) (N := r.2.2) (n := r.2.2) hts (fun w hw => (List.mem_filter.mp (g1 w hw)).1) (hts _ (List.mem_filter.mp g2).1)
      exact ⟨(cC, iS), fun r' h => by cases h; exact hKn⟩
  exact ⟨(fun k => (Classical.choose (h0 k)).1, fun k => (Classical.choose (h0 k)).2), fun k q hq => Classical.choose_spec (h0 k) q hq, fun k q h => by simp at h⟩
/-- a constructor's call -/
theorem lx_init (C0 : lw_At p s m meth c b L xs) (N : ia_N sa (fun q : Nat => s.heap.size ≤ q) s s.heap) {y2 i pp kx bx pc n : Nat} {rest : List Value} {σ σ' : ia_H} {n' : Nat} {H : Heap} {locs : List Loc} {ws : va_W} {tys : List (ClassId × FieldType)} {ls : Array Slot} (hok : ia_okI 18 (i, 1, y2, 2, 0, pp) = true) (hd : decode code pc = .ok (.invokespecial i, 3)) (hrest : (rest.map fun v => v.category).sum ≤ 8) (hna : ia_na y2 = 1)
    (hcall : ia_call 7 y2 [.inr (.inr (.inl (some kx)))] σ n = some (none, σ', n')) (hls : ls.size = 7) (hG : lx_G s D sa as0 H locs ws tys σ n) (hbx : (ws.map Prod.fst)[kx]? = some bx) (hc : nc + ia_mc y2 ≤ 601024 ∧ ns + ia_ms y2 ≤ 7293034)
    (k : ∀ (H1 : Heap) (locs1 : List Loc) (ws1 : va_W) (tys1 : List (ClassId × FieldType)), lx_G s D sa (ws.map Prod.fst) H1 locs1 ws1 tys1 σ' n' → W p l e room_1 s m #[Value.ref b] below meth c H1 locs1 (nc + ia_mc y2) (ns + ia_ms y2) (lw_Z below #[Value.ref b] s) (F0 m (pc + 3) ls rest)) : W p l e room_1 s m #[Value.ref b] below meth c H locs nc ns (lw_Z below #[Value.ref b] s) (F0 m pc ls (.ref bx :: rest)) := by
  obtain ⟨hx, hb, hr, hml, hown, hts, hX, hbl, hlocks, hgv⟩ := id C0
  obtain ⟨hK, hP, hD, hS, hn, hR, x0, hx0⟩ := id hG
  have hA : ∀ q : Nat, s.heap.size ≤ q → (fun q : Nat => s.heap.size ≤ q) q := fun _ h => h
  have htb : ∀ w ∈ ia_TB, w.before #[Value.ref b] s = true := fun w hw => hts w (List.mem_filter.mp hw).1
  obtain ⟨k1, k2, k3, k4, k6⟩ := ia_ok1i hok
  obtain ⟨kk, hk1, hk2⟩ := ia_pred k6
  obtain ⟨e1, e2, e3, e4, e5, e6, e7, e8⟩ := ia_okM_eq k1
  have hS' : ia_S sa (ws.map Prod.fst) [.inr (.inr (.inl (some kx)))] [.ref bx] := ⟨_, _, rfl, ⟨bx, hbx, rfl⟩, rfl⟩
  have hmet := ia_met 7 y2 _ σ n _ hcall k1 l D sa [.ref bx] ws tys H.size hS' hn hR
  have hcb : CallB room_1 s #[Value.ref b] (ia_own 18) i (ia_nm y2) (ia_code y2) (ia_maxL y2) (ia_ret y2) (ia_ws y2) (ia_rm 7 y2) (ia_mc y2) (ia_ms y2) kk := callB_of (Ts := lw_tbl) (ws' := ia_TB) kk hts (ia_good0 e2) (by rw [ia_ws, e1]) rfl rfl (htb _ e5) (htb _ k2) ⟨e6, e7, hk2⟩ ⟨by show 7 + 1 ≤ 2048; decide, by show 8 + (ia_maxL y2 + 11) + 100 * 7 ≤ 84000; omega⟩
  rw [k4.2] at hcb
  refine ia_after (va_runI (As := []) (rest := rest) (Ts := lw_tbl) (cc := code) (nL := 7) (own := ia_own 18) ⟨hx, hb, hml, hown, hts⟩ hmet ⟨hcb, k4.1, htb _ k3⟩ ⟨ia_blind, ia_pre N hK hP hD hS hA⟩ rfl (by show 0 = kk; omega) hls rfl (lv_room hrest) hd ⟨hc.1, hc.2⟩) hS (ia_free hD hS hA) (fun ov ws' tys' H1 locs1 q1 q2 q3 q4 q5 q6 q7 q8 => ?_)
  cases ov with
  | some v => cases q1
  | none => exact k H1 locs1 ws' tys' ⟨q6, q5, q7, q8, q2, q4, q3⟩
theorem ia_w0_R (sa : Nat × Nat) : ia_R sa [] ia_w0 [] := by
  intro k c0 h hn
  obtain ⟨r, h1, h2⟩ := ia_get2_eq h
  unfold ia_w0 at h1
  rw [List.getElem?_replicate] at h1
  split at h1
  · cases h1
    rw [List.getElem?_replicate] at h2
    split at h2
    · cases h2; exact absurd rfl hn
    · cases h2
  · cases h1
end LX3
