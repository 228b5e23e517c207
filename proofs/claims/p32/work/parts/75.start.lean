set_option maxHeartbeats 4000000 in
set_option maxRecDepth 100000 in
theorem c_X9_init1 (l : Launch) (K : KT) (V : VW) (x : Nat) : Ct l K yX9_init cX9_init 1 none 4 [.ref x] (vset V x (.inr (9, [.null, .null, .null, .null, .null]))) (x + 1) none (ww K x z0C z0C (fun _ => z0C) (fun k => k) (fun _ => 0) (fun _ => 0) (fun _ => 0) V) (x + 194) 193 1645 := by
  refine Ct.ofG (by decide) (Nat.le_of_ble_eq_true rfl) ?_
  intro p9 e9 s9 m9 a9 b9 t9 c9 cx hin9
  refine G.lv0 (lv2 := [(0, .ref x)]) rfl ?_
  refine G.aload_n (pc := 0) cx dX9_init_0 rfl 0 rfl ?_
  refine G.objI (pc := 1) cx dX9_init_1 wm_ml_X9_1 ⟨(Nat.le_of_ble_eq_true rfl), (Nat.le_of_ble_eq_true rfl)⟩ (Nat.le_of_ble_eq_true rfl) ?_
  refine G.aload_n (pc := 4) cx dX9_init_4 rfl 0 rfl ?_
  refine G.new (pc := 5) (fs := [.null, .null, .null, .null, .null, .int 0, .int 0, .int 0, .int 0, .int 0]) cx tyX0 tyX0_ok dX9_init_5 wm_cl_X9_7 inlX0 wm_ii_X0 wm_in_X0 (ci := 0) rfl (fun j hj => by revert j; decide) (Nat.le_of_ble_eq_true rfl) (Nat.le_of_ble_eq_true rfl) ?_
  refine G.dup (pc := 8) cx dX9_init_8 rfl ?_
  refine G.callI (pc := 9) (rest := [.ref (x + 1), .ref x]) cx (c_X0_init l K (vset V x (.inr (9, [.null, .null, .null, .null, .null]))) (x + 1)) ok_X0_init dX9_init_9 wm_ml_X9_9 rfl (Nat.le_of_ble_eq_true rfl) (by omega) ⟨(Nat.le_of_ble_eq_true rfl), (Nat.le_of_ble_eq_true rfl)⟩ ⟨(Nat.le_of_ble_eq_true rfl), (Nat.le_of_ble_eq_true rfl)⟩ ?_
  refine G.putF (pc := 12) (ci := 9) (fs := [.null, .null, .null, .null, .null]) (fs2 := [.ref (x + 1), .null, .null, .null, .null]) cx hin9 0 tyX9 tyX9_ok nmX9 dX9_init_12 wm_fl_X9_10 inlX9 rfl (by decide) rfl rfl rfl rfl rfl (by rw [bw_out (by omega)]; exact vset_self _ _ _) (by simp) rfl (G.cast (V' := (bw K (x + 1) z0C (vset V x (.inr (9, [.ref (x + 1), .null, .null, .null, .null]))))) (by rw [bw_vset (by omega), vset_vset]) ?_)
  refine G.aload_n (pc := 15) cx dX9_init_15 rfl 0 rfl ?_
  refine G.new (pc := 16) (fs := [.null, .null, .null, .null, .null, .int 0, .int 0, .int 0, .int 0, .int 0]) cx tyX0 tyX0_ok dX9_init_16 wm_cl_X9_7 inlX0 wm_ii_X0 wm_in_X0 (ci := 0) rfl (fun j hj => by revert j; decide) (Nat.le_of_ble_eq_true rfl) (Nat.le_of_ble_eq_true rfl) ?_
  refine G.dup (pc := 19) cx dX9_init_19 rfl ?_
  refine G.callI (pc := 20) (rest := [.ref (x + 32), .ref x]) cx (c_X0_init l K (bw K (x + 1) z0C (vset V x (.inr (9, [.ref (x + 1), .null, .null, .null, .null])))) (x + 32)) ok_X0_init dX9_init_20 wm_ml_X9_9 rfl (Nat.le_of_ble_eq_true rfl) (by omega) ⟨(Nat.le_of_ble_eq_true rfl), (Nat.le_of_ble_eq_true rfl)⟩ ⟨(Nat.le_of_ble_eq_true rfl), (Nat.le_of_ble_eq_true rfl)⟩ ?_
  refine G.putF (pc := 23) (ci := 9) (fs := [.ref (x + 1), .null, .null, .null, .null]) (fs2 := [.ref (x + 1), .ref (x + 32), .null, .null, .null]) cx hin9 1 tyX9 tyX9_ok nmX9 dX9_init_23 wm_fl_X9_16 inlX9 rfl (by decide) rfl rfl rfl rfl rfl (by rw [bw_out (by omega), bw_out (by omega)]; exact vset_self _ _ _) (by simp) rfl (G.cast (V' := (bw K (x + 32) z0C (bw K (x + 1) z0C (vset V x (.inr (9, [.ref (x + 1), .ref (x + 32), .null, .null, .null])))))) (by rw [bw_vset (by omega), bw_vset (by omega), vset_vset]) ?_)
  refine G.aload_n (pc := 26) cx dX9_init_26 rfl 0 rfl ?_
  refine G.new (pc := 27) (fs := [.null, .int 0]) cx tyX2 tyX2_ok dX9_init_27 wm_cl_X9_19 inlX2 wm_ii_X2 wm_in_X2 (ci := 2) rfl (fun j hj => by revert j; decide) (Nat.le_of_ble_eq_true rfl) (Nat.le_of_ble_eq_true rfl) ?_
  refine G.dup (pc := 30) cx dX9_init_30 rfl ?_
  refine G.callI (pc := 31) (rest := [.ref (x + 63), .ref x]) cx (c_X2_init l K (bw K (x + 32) z0C (bw K (x + 1) z0C (vset V x (.inr (9, [.ref (x + 1), .ref (x + 32), .null, .null, .null]))))) (x + 63)) ok_X2_init dX9_init_31 wm_ml_X9_21 rfl (Nat.le_of_ble_eq_true rfl) (by omega) ⟨(Nat.le_of_ble_eq_true rfl), (Nat.le_of_ble_eq_true rfl)⟩ ⟨(Nat.le_of_ble_eq_true rfl), (Nat.le_of_ble_eq_true rfl)⟩ ?_
  refine G.putF (pc := 34) (ci := 9) (fs := [.ref (x + 1), .ref (x + 32), .null, .null, .null]) (fs2 := [.ref (x + 1), .ref (x + 32), .ref (x + 63), .null, .null]) cx hin9 2 tyX9 tyX9_ok nmX9 dX9_init_34 wm_fl_X9_22 inlX9 rfl (by decide) rfl rfl rfl rfl rfl (by rw [hp_out (by omega), bw_out (by omega), bw_out (by omega)]; exact vset_self _ _ _) (by simp) rfl (G.cast (V' := (hp K (x + 63) (bw K (x + 32) z0C (bw K (x + 1) z0C (vset V x (.inr (9, [.ref (x + 1), .ref (x + 32), .ref (x + 63), .null, .null]))))) 4)) (by rw [hp_vset (by omega), bw_vset (by omega), bw_vset (by omega), vset_vset]) ?_)
  refine G.aload_n (pc := 37) cx dX9_init_37 rfl 0 rfl ?_
  refine G.new (pc := 38) (fs := [.null, .int 0]) cx tyX7 tyX7_ok dX9_init_38 wm_cl_X9_26 inlX7 wm_ii_X7 wm_in_X7 (ci := 7) rfl (fun j hj => by revert j; decide) (Nat.le_of_ble_eq_true rfl) (Nat.le_of_ble_eq_true rfl) ?_
  refine G.dup (pc := 41) cx dX9_init_41 rfl ?_
  refine G.callI (pc := 42) (rest := [.ref (x + 189), .ref x]) cx (c_X7_init l K (hp K (x + 63) (bw K (x + 32) z0C (bw K (x + 1) z0C (vset V x (.inr (9, [.ref (x + 1), .ref (x + 32), .ref (x + 63), .null, .null]))))) 4) (x + 189)) ok_X7_init dX9_init_42 wm_ml_X9_28 rfl (Nat.le_of_ble_eq_true rfl) (by omega) ⟨(Nat.le_of_ble_eq_true rfl), (Nat.le_of_ble_eq_true rfl)⟩ ⟨(Nat.le_of_ble_eq_true rfl), (Nat.le_of_ble_eq_true rfl)⟩ ?_
  refine G.putF (pc := 45) (ci := 9) (fs := [.ref (x + 1), .ref (x + 32), .ref (x + 63), .null, .null]) (fs2 := [.ref (x + 1), .ref (x + 32), .ref (x + 63), .ref (x + 189), .null]) cx hin9 3 tyX9 tyX9_ok nmX9 dX9_init_45 wm_fl_X9_29 inlX9 rfl (by decide) rfl rfl rfl rfl rfl (by rw [vset_ne _ _ (by omega), vset_ne _ _ (by omega), hp_out (by omega), bw_out (by omega), bw_out (by omega)]; exact vset_self _ _ _) (by simp) rfl (G.cast (V' := (vset (vset (hp K (x + 63) (bw K (x + 32) z0C (bw K (x + 1) z0C (vset V x (.inr (9, [.ref (x + 1), .ref (x + 32), .ref (x + 63), .ref (x + 189), .null]))))) 4) (x + 189) (.inr (7, [.ref (x + 189 + 1), .int 0]))) (x + 189 + 1) (.inl (K.2.1 0, 60, .inl (fun _ => 0))))) (by rw [vset_comm (show x + 189 + 1 ≠ x by omega), vset_comm (show x + 189 ≠ x by omega), hp_vset (by omega), bw_vset (by omega), bw_vset (by omega), vset_vset]) ?_)
  refine G.aload_n (pc := 48) cx dX9_init_48 rfl 0 rfl ?_
  refine G.new (pc := 49) (fs := [.null, .int 0, .int 0, .int 0, .int 0]) cx tyX5 tyX5_ok dX9_init_49 wm_cl_X9_33 inlX5 wm_ii_X5 wm_in_X5 (ci := 5) rfl (fun j hj => by revert j; decide) (Nat.le_of_ble_eq_true rfl) (Nat.le_of_ble_eq_true rfl) ?_
  refine G.dup (pc := 52) cx dX9_init_52 rfl ?_
  refine G.callI (pc := 53) (rest := [.ref (x + 191), .ref x]) cx (c_X5_init l K (vset (vset (hp K (x + 63) (bw K (x + 32) z0C (bw K (x + 1) z0C (vset V x (.inr (9, [.ref (x + 1), .ref (x + 32), .ref (x + 63), .ref (x + 189), .null]))))) 4) (x + 189) (.inr (7, [.ref (x + 189 + 1), .int 0]))) (x + 189 + 1) (.inl (K.2.1 0, 60, .inl (fun _ => 0)))) (x + 191)) ok_X5_init dX9_init_53 wm_ml_X9_35 rfl (Nat.le_of_ble_eq_true rfl) (by omega) ⟨(Nat.le_of_ble_eq_true rfl), (Nat.le_of_ble_eq_true rfl)⟩ ⟨(Nat.le_of_ble_eq_true rfl), (Nat.le_of_ble_eq_true rfl)⟩ ?_
  refine G.putF (pc := 56) (ci := 9) (fs := [.ref (x + 1), .ref (x + 32), .ref (x + 63), .ref (x + 189), .null]) (fs2 := [.ref (x + 1), .ref (x + 32), .ref (x + 63), .ref (x + 189), .ref (x + 191)]) cx hin9 4 tyX9 tyX9_ok nmX9 dX9_init_56 wm_fl_X9_36 inlX9 rfl (by decide) rfl rfl rfl rfl rfl (by rw [vset_ne _ _ (by omega), vset_ne _ _ (by omega), vset_ne _ _ (by omega), vset_ne _ _ (by omega), vset_ne _ _ (by omega), hp_out (by omega), bw_out (by omega), bw_out (by omega)]; exact vset_self _ _ _) (by simp) rfl (G.cast (V' := (vset (vset (vset (vset (vset (hp K (x + 63) (bw K (x + 32) z0C (bw K (x + 1) z0C (vset V x (.inr (9, [.ref (x + 1), .ref (x + 32), .ref (x + 63), .ref (x + 189), .ref (x + 191)]))))) 4) (x + 189) (.inr (7, [.ref (x + 189 + 1), .int 0]))) (x + 189 + 1) (.inl (K.2.1 0, 60, .inl (fun _ => 0)))) (x + 191) (.inr (5, [.ref (x + 191 + 1), .int 0, .int 0, .int 0, .int 0]))) (x + 191 + 1) (.inr (4, [.ref (x + 191 + 2), .int 0, .int 0]))) (x + 191 + 2) (.inl (K.2.1 0, 3, .inl (fun _ => 0))))) (by rw [vset_comm (show x + 191 + 2 ≠ x by omega), vset_comm (show x + 191 + 1 ≠ x by omega), vset_comm (show x + 191 ≠ x by omega), vset_comm (show x + 189 + 1 ≠ x by omega), vset_comm (show x + 189 ≠ x by omega), hp_vset (by omega), bw_vset (by omega), bw_vset (by omega), vset_vset]) ?_)
  exact G.vret (pc := 59) cx rfl dX9_init_59 rfl (ww_0 K x V) rfl
theorem in_arr {s : State} {args : Array Value} (h : (Cond.arrayClass .int).before args s = true) : ∃ cA : ClassId, ArrOfT s cA .int ∧ va_RA s cA .int := by
  obtain ⟨cA, k, comp, h1, h2, h3⟩ := Cond.arrayClass_spec h
  exact ⟨cA, fun N z => ⟨(fun k h => by cases h), k, h2, comp, h3⟩, h1⟩
theorem ov_arr {s : State} {args : Array Value} {C : String} (h : (Cond.arrayOver (.object C)).before args s = true) : ∃ cA : ClassId, ArrOfT s cA (.object C) ∧ va_RA s cA (.object C) := by
  obtain ⟨comp, cA, k, h1, h2, h3, h4, h5⟩ := Cond.arrayOver_spec h
  exact ⟨cA, fun N z => ⟨(fun k h => by cases h), k, h3, comp, h4⟩, k, comp, h3, h4, h1, h5⟩
theorem z0_lo {i : Nat} (h : i < 195 ∨ (195 < i ∧ i < 203) ∨ 205 < i) : z0C i = 0 := by
  unfold z0C
  rw [upd_n _ _ (by omega), upd_n _ _ (by omega), upd_n _ _ (by omega), upd_n _ _ (by omega)]
theorem z0_inv : INV 0 0 z0C := by
  refine ⟨⟨by decide, by omega⟩, Or.inl (by decide), ⟨50, 25, 2, ⟨by decide, by omega, by omega⟩, ⟨by decide, by omega, by omega⟩, ⟨by decide, by omega, by omega⟩⟩, ⟨500, by decide, by omega, by omega⟩, ⟨0, by omega, by decide⟩, ⟨0, by omega, by decide⟩, fun j hj => ⟨0, 0, ?_, ?_, by omega, by omega, by omega, by omega, Or.inr rfl⟩, ⟨0, by decide, by omega, by omega, fun k hk => absurd hk (by omega)⟩⟩
  · rw [z0_lo (by omega)]; exact i0
  · rw [z0_lo (by omega)]; exact i0
theorem tb {s : State} {args : Array Value} {w : Cond} (hts : ∀ w ∈ lw_tbl, w.before args s = true) (i : Nat) (h : lw_tbl[i]? = some w) : w.before args s = true := hts w (List.mem_of_getElem? h)
set_option maxHeartbeats 4000000 in
set_option maxRecDepth 100000 in
/-- the machine at the law's entry -/
theorem start_cx {p : Program} {s : State} {m : MethodId} {meth : Method} {c : Code} {b L : Nat} {xs : Nat → Int32} (C0 : lw_At p s m meth c b L xs) : ∃ K : KT, kn K = s.heap.size ∧ K.2.2.2.2.2.1 = b ∧ K.2.2.2.2.2.2.1 = L ∧ Cx K p s m #[Value.ref b] meth c RL cL_law 13 ret := by
  obtain ⟨hx, hb, hr, hml, hown, hts, hX, hbl, hlk, hgv⟩ := C0
  have wts : ∀ w ∈ wsL_law, w.before #[Value.ref b] s = true := fun w h => hts w (wt_all w h)
  obtain ⟨c0v, s0v, hK0⟩ := u_known (C := RX0) (T := TX0) (N := 10) (n := 10) wts inlX0 (wts _ wm_ii_X0)
  obtain ⟨c1v, s1v, hK1⟩ := u_known (C := RX1) (T := TX1) (N := 4) (n := 4) wts inlX1 (wts _ wm_ii_X1)
  obtain ⟨c2v, s2v, hK2⟩ := u_known (C := RX2) (T := TX2) (N := 2) (n := 2) wts inlX2 (wts _ wm_ii_X2)
  obtain ⟨c3v, s3v, hK3⟩ := u_known (C := RX3) (T := TX3) (N := 5) (n := 5) wts inlX3 (wts _ wm_ii_X3)
  obtain ⟨c4v, s4v, hK4⟩ := u_known (C := RX4) (T := TX4) (N := 3) (n := 3) wts inlX4 (wts _ wm_ii_X4)
  obtain ⟨c5v, s5v, hK5⟩ := u_known (C := RX5) (T := TX5) (N := 5) (n := 5) wts inlX5 (wts _ wm_ii_X5)
  obtain ⟨c6v, s6v, hK6⟩ := u_known (C := RX6) (T := TX6) (N := 10) (n := 10) wts inlX6 (wts _ wm_ii_X6)
  obtain ⟨c7v, s7v, hK7⟩ := u_known (C := RX7) (T := TX7) (N := 2) (n := 2) wts inlX7 (wts _ wm_ii_X7)
  obtain ⟨c8v, s8v, hK8⟩ := u_known (C := RX8) (T := TX8) (N := 8) (n := 8) wts inlX8 (wts _ wm_ii_X8)
  obtain ⟨c9v, s9v, hK9⟩ := u_known (C := RX9) (T := TX9) (N := 5) (n := 5) wts inlX9 (wts _ wm_ii_X9)
  obtain ⟨a0, g0, r0⟩ := in_arr (tb hts (w := Cond.arrayClass .int) 123 (by decide +kernel))
  obtain ⟨a1, g1, r1⟩ := ov_arr (tb hts (w := Cond.arrayOver (.object RX6)) 30 (by decide +kernel))
  obtain ⟨a2, g2, r2⟩ := ov_arr (tb hts (w := Cond.arrayOver (.object RX3)) 74 (by decide +kernel))
  obtain ⟨a3, g3, r3⟩ := ov_arr (tb hts (w := Cond.arrayOver (.object RX0)) 202 (by decide +kernel))
  have hq := flat_of_before _ hgv
  have hTX : va_T .int b L (fun j => .int (xs j)) (fun q : Nat => s.heap.size ≤ q) s s.heap := by
    obtain ⟨scr, g1, g2, g3, g4, g5⟩ := hX
    exact ⟨scr, g1, g2, g3, by omega, by rw [g4], g5, fun q => Nat.lt_irrefl _ (Nat.lt_of_lt_of_le hbl q)⟩
  have hA : ∀ a : Nat, a < s.heap.size → ¬ (fun q : Nat => s.heap.size ≤ q) a := fun a h1 h2 => Nat.lt_irrefl _ (Nat.lt_of_lt_of_le h1 h2)
  have efS : ∀ j : Nat, j < 3 → (Term.elem (.static RX9 "FIRST_SETTINGS" "[I") (.int (Int32.ofNat j))).eval #[Value.ref b] s none [] s = some (.int (fS j)) := by
    intro j hj
    rcases (show j = 0 ∨ j = 1 ∨ j = 2 by omega) with rfl | rfl | rfl
    · exact va_eqt (t := .elem (.static RX9 "FIRST_SETTINGS" "[I") (.int 0)) (z := 50) (hq _ (by decide +kernel))
    · exact va_eqt (t := .elem (.static RX9 "FIRST_SETTINGS" "[I") (.int 1)) (z := 25) (hq _ (by decide +kernel))
    · exact va_eqt (t := .elem (.static RX9 "FIRST_SETTINGS" "[I") (.int 2)) (z := 2) (hq _ (by decide +kernel))
  obtain ⟨tfS, wfS, TfS⟩ := va_Tof (tm := (.static RX9 "FIRST_SETTINGS" "[I")) (ty := .int) (N := 3) (f := fun j => .int (fS j)) (A := fun q : Nat => s.heap.size ≤ q) (by decide) (hq _ (by decide +kernel)) (va_eqt (t := .length (.static RX9 "FIRST_SETTINGS" "[I")) (z := 3) (hq _ (by decide +kernel))) efS hA
  have ZfS := va_Zref (C := RX9) (n := "FIRST_SETTINGS") (d := "[I") (A := fun q : Nat => s.heap.size ≤ q) (tb hts (w := Cond.laysStatic RX9 "FIRST_SETTINGS" "[I") 99 (by decide +kernel)) (wts _ wm_in_X9) wfS hA
  have ehS : ∀ j : Nat, j < 3 → (Term.elem (.static RX9 "HIGHEST_SETTINGS" "[I") (.int (Int32.ofNat j))).eval #[Value.ref b] s none [] s = some (.int (hS j)) := by
    intro j hj
    rcases (show j = 0 ∨ j = 1 ∨ j = 2 by omega) with rfl | rfl | rfl
    · exact va_eqt (t := .elem (.static RX9 "HIGHEST_SETTINGS" "[I") (.int 0)) (z := 500) (hq _ (by decide +kernel))
    · exact va_eqt (t := .elem (.static RX9 "HIGHEST_SETTINGS" "[I") (.int 1)) (z := 200) (hq _ (by decide +kernel))
    · exact va_eqt (t := .elem (.static RX9 "HIGHEST_SETTINGS" "[I") (.int 2)) (z := 50) (hq _ (by decide +kernel))
  obtain ⟨thS, whS, ThS⟩ := va_Tof (tm := (.static RX9 "HIGHEST_SETTINGS" "[I")) (ty := .int) (N := 3) (f := fun j => .int (hS j)) (A := fun q : Nat => s.heap.size ≤ q) (by decide) (hq _ (by decide +kernel)) (va_eqt (t := .length (.static RX9 "HIGHEST_SETTINGS" "[I")) (z := 3) (hq _ (by decide +kernel))) ehS hA
  have ZhS := va_Zref (C := RX9) (n := "HIGHEST_SETTINGS") (d := "[I") (A := fun q : Nat => s.heap.size ≤ q) (tb hts (w := Cond.laysStatic RX9 "HIGHEST_SETTINGS" "[I") 686 (by decide +kernel)) (wts _ wm_in_X9) whS hA
  refine ⟨((fun k => [c0v, c1v, c2v, c3v, c4v, c5v, c6v, c7v, c8v, c9v].getD k c0v, fun k => [s0v, s1v, s2v, s3v, s4v, s5v, s6v, s7v, s8v, s9v].getD k s0v), fun k => [a0, a1, a2, a3].getD k a0, s.heap.size, tfS, thS, b, L, xs), rfl, rfl, rfl, hx, hb, hml, hown, wts, ⟨⟨fun k q hq => ?_, fun k q hq => ?_⟩, ?_, ⟨?_, ?_⟩, ?_, ?_, ?_⟩, ⟨ZfS, TfS, ZhS, ThS, hTX⟩, Nat.le_refl _, hlk, hr⟩
  · match k, hq with
    | 0, hq => cases hq; exact hK0
    | 1, hq => cases hq; exact hK1
    | 2, hq => cases hq; exact hK2
    | 3, hq => cases hq; exact hK3
    | 4, hq => cases hq; exact hK4
    | 5, hq => cases hq; exact hK5
    | 6, hq => cases hq; exact hK6
    | 7, hq => cases hq; exact hK7
    | 8, hq => cases hq; exact hK8
    | 9, hq => cases hq; exact hK9
    | k + 10, hq => simp [vwCl] at hq
  · match k, hq with
    | 0, hq => cases hq; exact ⟨g0, r0⟩
    | 1, hq => cases hq; exact ⟨g1, r1⟩
    | 2, hq => cases hq; exact ⟨g2, r2⟩
    | 3, hq => cases hq; exact ⟨g3, r3⟩
    | k + 4, hq => simp [tysK] at hq
  · exact List.forall_mem_cons.mpr ⟨va_Nw.of rfl (tb hts (w := .methodLinkNest RX0 17 yX6_init RX9) 32 (by decide +kernel)), List.forall_mem_cons.mpr ⟨va_Nw.of rfl (tb hts (w := .methodLinkNest RX0 24 yX3_init RX9) 76 (by decide +kernel)), List.forall_mem_cons.mpr ⟨va_Nw.of rfl (tb hts (w := .methodLinkNest RX0 32 yX9_copyNumbers RX9) 100 (by decide +kernel)), List.forall_mem_cons.mpr ⟨va_Nw.of rfl (tb hts (w := .methodLinkNest RX1 21 yX9_copyNumbers RX9) 297 (by decide +kernel)), List.forall_mem_cons.mpr ⟨va_Nw.of rfl (tb hts (w := .methodLinkNest RX0 80 yX9_within RX9) 409 (by decide +kernel)), List.forall_mem_cons.mpr ⟨va_Nw.of rfl (tb hts (w := .methodLinkNest RX1 33 yX9_within RX9) 391 (by decide +kernel)), List.forall_mem_cons.mpr ⟨va_Nw.of rfl (tb hts (w := .methodLinkNest RX0 240 yX9_bitsOf RX9) 719 (by decide +kernel)), fun _ h => absurd h List.not_mem_nil⟩⟩⟩⟩⟩⟩⟩
  · exact va_Nw.of rfl (tb hts (w := .fieldLinkNest RX0 206 RX9 "HIGHEST_SETTINGS" "[I" RX9) 685 (by decide +kernel))
  · exact va_Nw.of rfl (tb hts (w := .fieldLinkNest RX0 25 RX9 "FIRST_SETTINGS" "[I" RX9) 98 (by decide +kernel))
  · exact va_AO.of (tb hts (w := Cond.arrayOver (.object RX6)) 30 (by decide +kernel))
  · exact va_AO.of (tb hts (w := Cond.arrayOver (.object RX3)) 74 (by decide +kernel))
  · exact va_AO.of (tb hts (w := Cond.arrayOver (.object RX0)) 202 (by decide +kernel))
theorem xw_new {K : KT} {x : Nat} {z t f u g : Zt} {h : Nat → Zt} {π : Nat → Nat} {V : VW} : (vset (vset (vset (vset (vset (vset (ww K x z t h π f u g V) (x + 194) (.inl (K.2.1 0, 17, .inl (fun _ => 0)))) (x + 195) (.inl (K.2.1 0, 48, .inl (fun _ => 0)))) (x + 196) (.inl (K.2.1 0, 64, .inl (fun _ => 0)))) (x + 197) (.inl (K.2.1 0, 48, .inl (fun _ => 0)))) (x + 198) (.inl (K.2.1 0, 30, .inl (fun _ => 0)))) (x + 199) (.inl (K.2.1 0, 24, .inl (fun _ => 0)))) = xwL K x z (t, h, π, f, u, g) (fun _ => 0) V := by
  have e : ∀ n : Nat, ∀ f9 : Zt, (∀ i, f9 i = 0) → cutF n f9 = fun _ => 0 := fun n f9 h9 => by funext i; unfold cutF; split <;> simp [h9]
  funext a
  unfold xwL vset
  by_cases h5 : a = x + 199
  · subst h5; rw [if_pos rfl, ww_out (by omega)]; exact ((pw_at (A := x + 194) (i := 5) (by decide)).trans (by unfold lacell; simp [e 24 (laK fun _ => 0) (fun _ => rfl)])).symm
  rw [if_neg h5]
  by_cases h4 : a = x + 198
  · subst h4; rw [if_pos rfl, ww_out (by omega)]; exact ((pw_at (A := x + 194) (i := 4) (by decide)).trans (by unfold lacell; simp [e 30 (laT fun _ => 0) (fun _ => rfl)])).symm
  rw [if_neg h4]
  by_cases h3 : a = x + 197
  · subst h3; rw [if_pos rfl, ww_out (by omega)]; exact ((pw_at (A := x + 194) (i := 3) (by decide)).trans (by unfold lacell; simp [e 48 (laC fun _ => 0) (fun _ => rfl)])).symm
  rw [if_neg h3]
  by_cases h2 : a = x + 196
  · subst h2; rw [if_pos rfl, ww_out (by omega)]; exact ((pw_at (A := x + 194) (i := 2) (by decide)).trans (by unfold lacell; simp [e 64 (laB fun _ => 0) (fun _ => rfl)])).symm
  rw [if_neg h2]
  by_cases h1 : a = x + 195
  · subst h1; rw [if_pos rfl, ww_out (by omega)]; exact ((pw_at (A := x + 194) (i := 1) (by decide)).trans (by unfold lacell; simp [e 48 (laA fun _ => 0) (fun _ => rfl)])).symm
  rw [if_neg h1]
  by_cases h0 : a = x + 194
  · subst h0; rw [if_pos rfl, ww_out (by omega)]; exact ((pw_at (A := x + 194) (i := 0) (by decide)).trans (by unfold lacell; simp [e 17 (laG fun _ => 0) (fun _ => rfl)])).symm
  rw [if_neg h0]
  unfold ww
  by_cases h9 : x ≤ a ∧ a < x + 194
  · rw [if_pos h9, if_pos h9]
  · rw [if_neg h9, if_neg h9]; unfold pwL; rw [if_neg (by omega)]
def s0C : Ot := (z0C, fun _ => z0C, fun k => k, fun _ => 0, fun _ => 0, fun _ => 0)
theorem s0_ok : SOK s0C := ⟨fun _ => Or.inl (show z0C 191 = 0 by decide), ⟨0, by omega, by decide⟩, fun k hk => hk⟩
set_option maxHeartbeats 4000000 in
set_option maxRecDepth 100000 in
theorem whole_start {p : Program} {e : Env} {s : State} {m : MethodId} {below : List Frame} {meth : Method} {c : Code} (l : Launch) (hflags : l.flags = flags0) {b L : Nat} {xs : Nat → Int32} (hL : L ≤ 260) (C0 : lw_At p s m meth c b L xs) : W p l e room_1 s m #[Value.ref b] below meth c s.heap [] 0 0 (lw_Z below #[Value.ref b] s) (entryFrame m ([Value.ref b] : List Value).toArray 13) := by
  obtain ⟨K, hk, hb, hLK, cx⟩ := start_cx C0
  clear C0
  subst hb
  rw [← hLK] at hL
  generalize hx0 : s.heap.size = x0 at *
  have hG : G K p l e room_1 s m #[Value.ref K.2.2.2.2.2.1] below meth c (lw_Z below #[Value.ref K.2.2.2.2.2.1] s) 13 (fun _ => none) x0 0 0 0 [(0, .ref K.2.2.2.2.2.1)] [] := by
    refine G.new (pc := 0) (fs := [.null, .null, .null, .null, .null]) cx tyX9 tyX9_ok dL_law_0 wm_cl_L_31 inlX9 wm_ii_X9 wm_in_X9 (ci := 9) rfl (fun j hj => by revert j; decide) (Nat.le_of_ble_eq_true rfl) (Nat.le_of_ble_eq_true rfl) ?_
    refine G.dup (pc := 3) cx dL_law_3 rfl ?_
    refine G.callI (pc := 4) (rest := [.ref x0]) cx (c_X9_init1 l K (fun _ => none) x0) ok_X9_init dL_law_4 wm_ml_L_137 rfl (Nat.le_of_ble_eq_true rfl) (by omega) ⟨Nat.le_of_ble_eq_true rfl, Nat.le_of_ble_eq_true rfl⟩ ⟨Nat.le_of_ble_eq_true rfl, Nat.le_of_ble_eq_true rfl⟩ ?_
    refine G.astore_n (pc := 7) (lv2 := [(1, .ref x0), (0, .ref K.2.2.2.2.2.1)]) cx dL_law_7 rfl (by decide) rfl ?_
    refine G.bipush (pc := 8) cx dL_law_8 (v := nI 17) (by decide) ?_
    refine G.newi (pc := 10) cx dL_law_10 wm_ac_int 17 rfl (by decide) (Nat.le_of_ble_eq_true rfl) (Nat.le_of_ble_eq_true rfl) ?_
    refine G.castS (st' := [.ref (x0 + 194)]) rfl ?_
    refine G.astore_n (pc := 12) (lv2 := [(2, .ref (x0 + 194)), (1, .ref x0), (0, .ref K.2.2.2.2.2.1)]) cx dL_law_12 rfl (by decide) rfl ?_
    refine G.bipush (pc := 13) cx dL_law_13 (v := nI 48) (by decide) ?_
    refine G.newi (pc := 15) cx dL_law_15 wm_ac_int 48 rfl (by decide) (Nat.le_of_ble_eq_true rfl) (Nat.le_of_ble_eq_true rfl) ?_
    refine G.castS (st' := [.ref (x0 + 195)]) rfl ?_
    refine G.astore_n (pc := 17) (lv2 := [(3, .ref (x0 + 195)), (2, .ref (x0 + 194)), (1, .ref x0), (0, .ref K.2.2.2.2.2.1)]) cx dL_law_17 rfl (by decide) rfl ?_
    refine G.bipush (pc := 18) cx dL_law_18 (v := nI 64) (by decide) ?_
    refine G.newi (pc := 20) cx dL_law_20 wm_ac_int 64 rfl (by decide) (Nat.le_of_ble_eq_true rfl) (Nat.le_of_ble_eq_true rfl) ?_
    refine G.castS (st' := [.ref (x0 + 196)]) rfl ?_
    refine G.astore (pc := 22) (lv2 := [(4, .ref (x0 + 196)), (3, .ref (x0 + 195)), (2, .ref (x0 + 194)), (1, .ref x0), (0, .ref K.2.2.2.2.2.1)]) cx dL_law_22 (by decide) rfl ?_
    refine G.bipush (pc := 24) cx dL_law_24 (v := nI 48) (by decide) ?_
    refine G.newi (pc := 26) cx dL_law_26 wm_ac_int 48 rfl (by decide) (Nat.le_of_ble_eq_true rfl) (Nat.le_of_ble_eq_true rfl) ?_
    refine G.castS (st' := [.ref (x0 + 197)]) rfl ?_
    refine G.astore (pc := 28) (lv2 := [(5, .ref (x0 + 197)), (4, .ref (x0 + 196)), (3, .ref (x0 + 195)), (2, .ref (x0 + 194)), (1, .ref x0), (0, .ref K.2.2.2.2.2.1)]) cx dL_law_28 (by decide) rfl ?_
    refine G.bipush (pc := 30) cx dL_law_30 (v := nI 30) (by decide) ?_
    refine G.newi (pc := 32) cx dL_law_32 wm_ac_int 30 rfl (by decide) (Nat.le_of_ble_eq_true rfl) (Nat.le_of_ble_eq_true rfl) ?_
    refine G.castS (st' := [.ref (x0 + 198)]) rfl ?_
    refine G.astore (pc := 34) (lv2 := [(6, .ref (x0 + 198)), (5, .ref (x0 + 197)), (4, .ref (x0 + 196)), (3, .ref (x0 + 195)), (2, .ref (x0 + 194)), (1, .ref x0), (0, .ref K.2.2.2.2.2.1)]) cx dL_law_34 (by decide) rfl ?_
    refine G.bipush (pc := 36) cx dL_law_36 (v := nI 24) (by decide) ?_
    refine G.newi (pc := 38) cx dL_law_38 wm_ac_int 24 rfl (by decide) (Nat.le_of_ble_eq_true rfl) (Nat.le_of_ble_eq_true rfl) ?_
    refine G.castS (st' := [.ref (x0 + 199)]) rfl ?_
    refine G.astore (pc := 40) (lv2 := [(7, .ref (x0 + 199)), (6, .ref (x0 + 198)), (5, .ref (x0 + 197)), (4, .ref (x0 + 196)), (3, .ref (x0 + 195)), (2, .ref (x0 + 194)), (1, .ref x0), (0, .ref K.2.2.2.2.2.1)]) cx dL_law_40 (by decide) rfl ?_
    refine G.castL (lv' := [(0, .ref K.2.2.2.2.2.1), (1, .ref x0), (2, .ref (x0 + 194)), (3, .ref (x0 + 195)), (4, .ref (x0 + 196)), (5, .ref (x0 + 197)), (6, .ref (x0 + 198)), (7, .ref (x0 + 199))]) [7, 6, 5, 4, 3, 2, 1, 0] rfl ?_
    refine G.cast (V' := xwL K x0 z0C s0C (fun _ => 0) (fun _ => none)) xw_new ?_
    refine G.aload_n (pc := 42) cx dL_law_42 rfl 2 rfl ?_
    refine G.iconst (pc := 43) cx dL_law_43 (v := nI 5) (by decide) ?_
    refine G.sipush (pc := 44) cx dL_law_44 (v := 500) (by decide) ?_
    refine G.iastC (pc := 47) cx dL_law_47 xl_g (j := 5) rfl (by decide) (by decide) (xs_g (n := 195) (by decide) (by decide)) ?_
    refine G.aload_n (pc := 48) cx dL_law_48 rfl 2 rfl ?_
    refine G.bipush (pc := 49) cx dL_law_49 (v := nI 13) (by decide) ?_
    refine G.bipush (pc := 51) cx dL_law_51 (v := 50) (by decide) ?_
    refine G.iastC (pc := 53) cx dL_law_53 xl_g (j := 13) rfl (by decide) (by decide) (xs_g (n := 203) (by decide) (by decide)) ?_
    refine G.aload_n (pc := 54) cx dL_law_54 rfl 2 rfl ?_
    refine G.bipush (pc := 55) cx dL_law_55 (v := nI 14) (by decide) ?_
    refine G.bipush (pc := 57) cx dL_law_57 (v := 25) (by decide) ?_
    refine G.iastC (pc := 59) cx dL_law_59 xl_g (j := 14) rfl (by decide) (by decide) (xs_g (n := 204) (by decide) (by decide)) ?_
    refine G.aload_n (pc := 60) cx dL_law_60 rfl 2 rfl ?_
    refine G.bipush (pc := 61) cx dL_law_61 (v := nI 15) (by decide) ?_
    refine G.iconst (pc := 63) cx dL_law_63 (v := 2) (by decide) ?_
    refine G.iastC (pc := 64) cx dL_law_64 xl_g (j := 15) rfl (by decide) (by decide) (xs_g (n := 205) (by decide) (by decide)) ?_
    refine G.cast (V' := xwL K x0 z0C s0C z0C (fun _ => none)) rfl ?_
    refine G.aload_n (pc := 65) cx dL_law_65 rfl 1 rfl ?_
    refine G.aload_n (pc := 66) cx dL_law_66 rfl 2 rfl ?_
    refine G.aload_n (pc := 67) cx dL_law_67 rfl 3 rfl ?_
    refine G.aload (pc := 68) cx dL_law_68 4 rfl ?_
    refine G.aload (pc := 70) cx dL_law_70 5 rfl ?_
    refine G.aload (pc := 72) cx dL_law_72 6 rfl ?_
    refine G.aload (pc := 74) cx dL_law_74 7 rfl ?_
    refine G.callS (pc := 76) (rest := []) cx (c_L_isSo l K (x0 + 200) x0 s0C z0C (fun _ => none) 0 0 0 0 z0_inv (by decide) (by omega) (by decide) (by omega) (by decide) (by omega) (Nat.le_refl _)) ok_L_isSo dL_law_76 wm_ml_L_138 rfl rfl (Nat.le_of_ble_eq_true rfl) (by omega) ⟨Nat.le_of_ble_eq_true rfl, Nat.le_of_ble_eq_true rfl⟩ ⟨Nat.le_of_ble_eq_true rfl, Nat.le_of_ble_eq_true rfl⟩ ?_
    refine G.castS (st' := [.int (nI 1)]) rfl ?_
    refine G.if_eqN (pc := 79) cx 1 (by decide) dL_law_79 (tgt := 100) (by decide) (fun h9 => absurd h9 (by decide)) (fun _ => ?_)
    refine G.aload_n (pc := 82) cx dL_law_82 rfl 1 rfl ?_
    refine G.callVg (pc := 83) (rest := []) (st1 := [.int (-1000002)]) cx (k_undo (l := l) (K := K) (sz := x0 + 200 + 1) (x := x0) (z := z0C) (y := z0C) (s := s0C) s0_ok (by decide)) ok_X9_undo dL_law_83 wm_ml_L_142 rfl xw_o rfl (Nat.le_of_ble_eq_true rfl) ⟨Nat.le_of_ble_eq_true rfl, Nat.le_of_ble_eq_true rfl⟩ ⟨Nat.le_of_ble_eq_true rfl, Nat.le_of_ble_eq_true rfl⟩ rfl ?_
    refine G.ldc (pc := 86) cx dL_law_86 (v := -1000002) wm_ct_L_33 ?_
    refine G.icmp_ne (pc := 88) cx dL_law_88 (tgt := 100) (by decide) (fun h9 => absurd rfl h9) (fun _ => ?_)
    refine G.aload_n (pc := 91) cx dL_law_91 rfl 1 rfl ?_
    obtain ⟨s1, hs1, hc1⟩ := k_no (c := -1000002) (k_payOff (l := l) (K := K) (sz := x0 + 200 + 1) (x := x0) (y := z0C) (V := svL K (fun _ => none) (x0 + 200) (fun w => zSet z0C (nI w) 0)) z0_inv s0_ok) (if_pos (Or.inr (by decide))) (by decide)
    refine G.callVg (pc := 92) (rest := []) (st1 := [.int (-1000002)]) cx hc1 ok_X9_payOff dL_law_92 wm_ml_L_91 rfl xw_o rfl (Nat.le_of_ble_eq_true rfl) ⟨Nat.le_of_ble_eq_true rfl, Nat.le_of_ble_eq_true rfl⟩ ⟨Nat.le_of_ble_eq_true rfl, Nat.le_of_ble_eq_true rfl⟩ rfl ?_
    refine G.ldc (pc := 95) cx dL_law_95 (v := -1000002) wm_ct_L_33 ?_
    refine G.icmp_eq (pc := 97) cx dL_law_97 (tgt := 102) (by decide) (fun _ => ?_) (fun h9 => absurd rfl h9)
    refine G.iconst (pc := 102) cx dL_law_102 (v := nI 0) (by decide) ?_
    refine G.istore (pc := 103) (lv2 := (8, .int (nI 0)) :: [(0, .ref K.2.2.2.2.2.1), (1, .ref x0), (2, .ref (x0 + 194)), (3, .ref (x0 + 195)), (4, .ref (x0 + 196)), (5, .ref (x0 + 197)), (6, .ref (x0 + 198)), (7, .ref (x0 + 199))]) cx dL_law_103 (by decide) rfl ?_
    refine G.castL (lv' := [(0, .ref K.2.2.2.2.2.1), (1, .ref x0), (2, .ref (x0 + 194)), (3, .ref (x0 + 195)), (4, .ref (x0 + 196)), (5, .ref (x0 + 197)), (6, .ref (x0 + 198)), (7, .ref (x0 + 199))] ++ [(8, .int (nI 0))]) [1, 2, 3, 4, 5, 6, 7, 8, 0] rfl ?_
    exact law_loop (x := x0) cx (hk.trans hx0.symm) hL 60 0 (by omega) _ (x0 + 200 + 1) z0C s1 0 (by omega) hs1 z0_inv
  rw [lg_entry_eq]
  exact hG s.heap [] _ hx0 (fun a x h => by cases h) va_S.rf (lv_entry ([.ref K.2.2.2.2.2.1]) (n := 13) (Nat.le_of_ble_eq_true rfl))
