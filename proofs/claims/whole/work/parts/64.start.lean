theorem tb {s : State} {args : Array Value} {w : Cond} (hts : ∀ w ∈ lw_tbl, w.before args s = true) (i : Nat) (h : lw_tbl[i]? = some w) : w.before args s = true := hts w (List.mem_of_getElem? h)
set_option maxHeartbeats 4000000 in
set_option maxRecDepth 100000 in
/-- the machine at the law's entry -/
theorem start_cx {p : Program} {s : State} {m : MethodId} {meth : Method} {c : Code} {b L : Nat} {xs : Nat → Int32} (C0 : lw_At p s m meth c b L xs) : ∃ K : KT, kn K = s.heap.size ∧ Cx K p s m #[Value.ref b] meth c RL cL_law 4 ret := by
  obtain ⟨hx, hb, hr, hml, hown, hts, hX, hbl, hlk, hgv⟩ := C0
  have wts : ∀ w ∈ wsL_law, w.before #[Value.ref b] s = true := fun w h => hts w (wt_all w h)
  obtain ⟨c0v, s0v, hK0⟩ := u_known (C := RX0) (T := TX0) (N := 10) (n := 10) wts inlX0 (wts _ wm_ii_X0)
  obtain ⟨c1v, s1v, hK1⟩ := u_known (C := RX1) (T := TX1) (N := 4) (n := 4) wts inlX1 (wts _ wm_ii_X1)
  obtain ⟨c2v, s2v, hK2⟩ := u_known (C := RX2) (T := TX2) (N := 2) (n := 2) wts inlX2 (wts _ wm_ii_X2)
  obtain ⟨c3v, s3v, hK3⟩ := u_known (C := RX3) (T := TX3) (N := 5) (n := 5) wts inlX3 (wts _ wm_ii_X3)
  obtain ⟨c4v, s4v, hK4⟩ := u_known (C := RX4) (T := TX4) (N := 3) (n := 3) wts inlX4 (wts _ wm_ii_X4)
  obtain ⟨c5v, s5v, hK5⟩ := u_known (C := RX5) (T := TX5) (N := 5) (n := 5) wts inlX5 (wts _ wm_ii_X5)
  obtain ⟨c6v, s6v, hK6⟩ := u_known (C := RX6) (T := TX6) (N := 10) (n := 10) wts inlX6 (wts _ wm_ii_X6)
  obtain ⟨c7v, s7v, hK7⟩ := u_known (C := RX7) (T := TX7) (N := 2) (n := 2) wts inlX7 (wts _ wm_ii_X7)
  obtain ⟨c8v, s8v, hK8⟩ := u_known (C := RX8) (T := TX8) (N := 8) (n := 8) wts inlX8 (wts _ wm_ii_X8)
  obtain ⟨c9v, s9v, hK9⟩ := u_known (C := RX9) (T := TX9) (N := 5) (n := 5) wts inlX9 (wts _ wm_ii_X9)
  obtain ⟨c10v, s10v, hK10⟩ := u_known (C := RX10) (T := TX10) (N := 13) (n := 13) wts inlX10 (wts _ wm_ii_X10)
  obtain ⟨a0, g0, r0⟩ := in_arr (tb hts (w := Cond.arrayClass .int) 178 (by decide +kernel))
  obtain ⟨a1, g1, r1⟩ := ov_arr (tb hts (w := Cond.arrayOver (.object RX6)) 85 (by decide +kernel))
  obtain ⟨a2, g2, r2⟩ := ov_arr (tb hts (w := Cond.arrayOver (.object RX3)) 129 (by decide +kernel))
  obtain ⟨a3, g3, r3⟩ := ov_arr (tb hts (w := Cond.arrayOver (.object RX0)) 257 (by decide +kernel))
  have hq := flat_of_before _ hgv
  have hA : ∀ a : Nat, a < s.heap.size → ¬ (fun q : Nat => s.heap.size ≤ q) a := fun a h1 h2 => Nat.lt_irrefl _ (Nat.lt_of_lt_of_le h1 h2)
  have efS : ∀ j : Nat, j < 3 → (Term.elem (.static RX9 "FIRST_SETTINGS" "[I") (.int (Int32.ofNat j))).eval #[Value.ref b] s none [] s = some (.int (fS j)) := by
    intro j hj
    rcases (show j = 0 ∨ j = 1 ∨ j = 2 by omega) with rfl | rfl | rfl
    · exact va_eqt (t := .elem (.static RX9 "FIRST_SETTINGS" "[I") (.int 0)) (z := 50) (hq _ (by decide +kernel))
    · exact va_eqt (t := .elem (.static RX9 "FIRST_SETTINGS" "[I") (.int 1)) (z := 25) (hq _ (by decide +kernel))
    · exact va_eqt (t := .elem (.static RX9 "FIRST_SETTINGS" "[I") (.int 2)) (z := 2) (hq _ (by decide +kernel))
  obtain ⟨tfS, wfS, TfS⟩ := va_Tof (tm := (.static RX9 "FIRST_SETTINGS" "[I")) (ty := .int) (N := 3) (f := fun j => .int (fS j)) (A := fun q : Nat => s.heap.size ≤ q) (by decide) (hq _ (by decide +kernel)) (va_eqt (t := .length (.static RX9 "FIRST_SETTINGS" "[I")) (z := 3) (hq _ (by decide +kernel))) efS hA
  have ZfS := va_Zref (C := RX9) (n := "FIRST_SETTINGS") (d := "[I") (A := fun q : Nat => s.heap.size ≤ q) (tb hts (w := Cond.laysStatic RX9 "FIRST_SETTINGS" "[I") 154 (by decide +kernel)) (wts _ wm_in_X9) wfS hA
  have ehS : ∀ j : Nat, j < 3 → (Term.elem (.static RX9 "HIGHEST_SETTINGS" "[I") (.int (Int32.ofNat j))).eval #[Value.ref b] s none [] s = some (.int (hS j)) := by
    intro j hj
    rcases (show j = 0 ∨ j = 1 ∨ j = 2 by omega) with rfl | rfl | rfl
    · exact va_eqt (t := .elem (.static RX9 "HIGHEST_SETTINGS" "[I") (.int 0)) (z := 500) (hq _ (by decide +kernel))
    · exact va_eqt (t := .elem (.static RX9 "HIGHEST_SETTINGS" "[I") (.int 1)) (z := 200) (hq _ (by decide +kernel))
    · exact va_eqt (t := .elem (.static RX9 "HIGHEST_SETTINGS" "[I") (.int 2)) (z := 50) (hq _ (by decide +kernel))
  obtain ⟨thS, whS, ThS⟩ := va_Tof (tm := (.static RX9 "HIGHEST_SETTINGS" "[I")) (ty := .int) (N := 3) (f := fun j => .int (hS j)) (A := fun q : Nat => s.heap.size ≤ q) (by decide) (hq _ (by decide +kernel)) (va_eqt (t := .length (.static RX9 "HIGHEST_SETTINGS" "[I")) (z := 3) (hq _ (by decide +kernel))) ehS hA
  have ZhS := va_Zref (C := RX9) (n := "HIGHEST_SETTINGS") (d := "[I") (A := fun q : Nat => s.heap.size ≤ q) (tb hts (w := Cond.laysStatic RX9 "HIGHEST_SETTINGS" "[I") 593 (by decide +kernel)) (wts _ wm_in_X9) whS hA
  refine ⟨((fun k => [c0v, c1v, c2v, c3v, c4v, c5v, c6v, c7v, c8v, c9v, c10v].getD k c0v, fun k => [s0v, s1v, s2v, s3v, s4v, s5v, s6v, s7v, s8v, s9v, s10v].getD k s0v), fun k => [a0, a1, a2, a3].getD k a0, s.heap.size, tfS, thS), rfl, hx, hb, hml, hown, wts, ⟨⟨fun k q hq => ?_, fun k q hq => ?_⟩, ?_, ⟨?_, ?_⟩, ?_, ?_, ?_⟩, ⟨ZfS, TfS, ZhS, ThS⟩, Nat.le_refl _, hlk, hr⟩
  · match k, hq with
    | 0, hq => cases hq; exact hK0
    | 1, hq => cases hq; exact hK1
    | 2, hq => cases hq; exact hK2
    | 3, hq => cases hq; exact hK3
    | 4, hq => cases hq; exact hK4
    | 5, hq => cases hq; exact hK5
    | 6, hq => cases hq; exact hK6
    | 7, hq => cases hq; exact hK7
    | 8, hq => cases hq; exact hK8
    | 9, hq => cases hq; exact hK9
    | 10, hq => cases hq; exact hK10
    | k + 11, hq => simp [vwCl] at hq
  · match k, hq with
    | 0, hq => cases hq; exact ⟨g0, r0⟩
    | 1, hq => cases hq; exact ⟨g1, r1⟩
    | 2, hq => cases hq; exact ⟨g2, r2⟩
    | 3, hq => cases hq; exact ⟨g3, r3⟩
    | k + 4, hq => simp [tysK] at hq
  · exact List.forall_mem_cons.mpr ⟨va_Nw.of rfl (tb hts (w := .methodLinkNest RX0 17 yX6_init RX9) 87 (by decide +kernel)), List.forall_mem_cons.mpr ⟨va_Nw.of rfl (tb hts (w := .methodLinkNest RX0 24 yX3_init RX9) 131 (by decide +kernel)), List.forall_mem_cons.mpr ⟨va_Nw.of rfl (tb hts (w := .methodLinkNest RX0 32 yX9_copyNumbers RX9) 155 (by decide +kernel)), List.forall_mem_cons.mpr ⟨va_Nw.of rfl (tb hts (w := .methodLinkNest RX1 21 yX9_copyNumbers RX9) 362 (by decide +kernel)), List.forall_mem_cons.mpr ⟨va_Nw.of rfl (tb hts (w := .methodLinkNest RX0 80 yX9_within RX9) 371 (by decide +kernel)), List.forall_mem_cons.mpr ⟨va_Nw.of rfl (tb hts (w := .methodLinkNest RX1 33 yX9_within RX9) 627 (by decide +kernel)), List.forall_mem_cons.mpr ⟨va_Nw.of rfl (tb hts (w := .methodLinkNest RX0 240 yX9_bitsOf RX9) 711 (by decide +kernel)), List.forall_mem_cons.mpr ⟨va_Nw.of rfl (tb hts (w := .methodLinkNest RX7 15 yX9_within RX9) 745 (by decide +kernel)), List.forall_mem_cons.mpr ⟨va_Nw.of rfl (tb hts (w := .methodLinkNest RX4 39 yX9_within RX9) 784 (by decide +kernel)), fun _ h => absurd h List.not_mem_nil⟩⟩⟩⟩⟩⟩⟩⟩⟩
  · exact va_Nw.of rfl (tb hts (w := .fieldLinkNest RX0 206 RX9 "HIGHEST_SETTINGS" "[I" RX9) 592 (by decide +kernel))
  · exact va_Nw.of rfl (tb hts (w := .fieldLinkNest RX0 25 RX9 "FIRST_SETTINGS" "[I" RX9) 153 (by decide +kernel))
  · exact va_AO.of (tb hts (w := Cond.arrayOver (.object RX6)) 85 (by decide +kernel))
  · exact va_AO.of (tb hts (w := Cond.arrayOver (.object RX3)) 129 (by decide +kernel))
  · exact va_AO.of (tb hts (w := Cond.arrayOver (.object RX0)) 257 (by decide +kernel))
set_option maxHeartbeats 4000000 in
set_option maxRecDepth 100000 in
theorem whole_start {p : Program} {e : Env} {s : State} {m : MethodId} {below : List Frame} {meth : Method} {c : Code} (l : Launch) (hflags : l.flags = flags0) {b L : Nat} {xs : Nat → Int32} (hL : L ≤ 2048) (C0 : lw_At p s m meth c b L xs) : W p l e room_1 s m #[Value.ref b] below meth c s.heap [] 0 0 (lw_Z below #[Value.ref b] s) (entryFrame m ([Value.ref b] : List Value).toArray 4) := by
  obtain ⟨K, hk, cx⟩ := start_cx C0
  obtain ⟨-, -, -, -, -, -, hX, hbl, -, -⟩ := C0
  generalize hx0 : s.heap.size = x0 at *
  have hG : G K p l e room_1 s m #[Value.ref b] below meth c (lw_Z below #[Value.ref b] s) 4 (fun _ => none) x0 0 0 0 [(0, .ref b)] [] := by
    refine G.new (pc := 0) (fs := [.null, .null, .null, .null, .null]) cx tyX9 tyX9_ok dL_law_0 wm_cl_L_7 inlX9 wm_ii_X9 wm_in_X9 (ci := 9) rfl (fun j hj => by revert j; decide) (Nat.le_of_ble_eq_true rfl) (Nat.le_of_ble_eq_true rfl) ?_
    refine G.dup (pc := 3) cx dL_law_3 rfl ?_
    refine G.callI (pc := 4) (rest := [.ref x0]) cx (c_X9_init1 l K (fun _ => none) x0) ok_X9_init dL_law_4 wm_ml_L_9 rfl (Nat.le_of_ble_eq_true rfl) (by omega) ⟨Nat.le_of_ble_eq_true rfl, Nat.le_of_ble_eq_true rfl⟩ ⟨Nat.le_of_ble_eq_true rfl, Nat.le_of_ble_eq_true rfl⟩ ?_
    refine G.astore_n (pc := 7) (lv2 := [(1, .ref x0), (0, .ref b)]) cx dL_law_7 rfl (by decide) rfl ?_
    refine G.new (pc := 8) (fs := [.null, .null, .null, .int 0, .null, .int 0, .int 0, .null, .int 0, .int 0, .int 0, .int 0, .int 0]) cx tyX10 tyX10_ok dL_law_8 wm_cl_L_10 inlX10 wm_ii_X10 wm_in_X10 (ci := 10) rfl (fun j hj => by revert j; decide) (Nat.le_of_ble_eq_true rfl) (Nat.le_of_ble_eq_true rfl) ?_
    refine G.dup (pc := 11) cx dL_law_11 rfl ?_
    refine G.callI (pc := 12) (rest := [.ref (x0 + 194)]) cx (c_X10_init_m l K (ww K x0 z0C z0C (fun _ => z0C) (fun k => k) (fun _ => 0) (fun _ => 0) (fun _ => 0) (fun _ => none)) (x0 + 194)) ok_X10_init dL_law_12 wm_ml_L_12 rfl (Nat.le_of_ble_eq_true rfl) (by omega) ⟨Nat.le_of_ble_eq_true rfl, Nat.le_of_ble_eq_true rfl⟩ ⟨Nat.le_of_ble_eq_true rfl, Nat.le_of_ble_eq_true rfl⟩ ?_
    refine G.astore_n (pc := 15) (lv2 := [(2, .ref (x0 + 194)), (1, .ref x0), (0, .ref b)]) cx dL_law_15 rfl (by decide) rfl ?_
    refine G.iconst (pc := 16) cx dL_law_16 (v := nI 0) (by decide) ?_
    refine G.istore_n (pc := 17) (lv2 := [(3, .int (nI 0)), (2, .ref (x0 + 194)), (1, .ref x0), (0, .ref b)]) cx dL_law_17 rfl (by decide) rfl ?_
    refine G.castL [3, 2, 1, 0] rfl ?_
    refine law_loop (x := x0) (o := x0 + 194) (V0 := fun _ => none) cx (hk.trans hx0.symm) hX (by omega) hL (Nat.le_refl _) ⟨Nat.le_of_ble_eq_true rfl, Nat.le_of_ble_eq_true rfl⟩ (L + 1) 0 _ (by omega) (by omega) ?_
    exact ⟨z0C, z0C, fun _ => z0C, fun k => k, fun _ => 0, fun _ => 0, fun _ => 0, r0C, 0, 0, 0, (ww_mw (Nat.le_refl _)).symm, fun p => Or.inl (show z0C 191 = 0 by decide), z0_re⟩
  rw [lg_entry_eq]
  exact hG s.heap [] _ hx0 (fun a x h => by cases h) va_S.rf (lv_entry ([.ref b]) (n := 4) (Nat.le_of_ble_eq_true rfl))
