/-! THE START: the constructor once more with its own number of locals; the machine at the law's entry; the loop -/
set_option maxHeartbeats 4000000 in
set_option maxRecDepth 100000 in
theorem c_X9_init1 (l : Launch) (K : KT) (V : VW) (x : Nat) : Ct l K yX9_init cX9_init 1 none 4 [.ref x] (vset V x (.inr (9, [.null, .null, .null, .null, .null]))) (x + 1) none (ww K x z0C z0C (fun _ => z0C) (fun k => k) (fun _ => 0) (fun _ => 0) (fun _ => 0) V) (x + 194) 193 1645 := by
  refine Ct.ofG (by decide) (Nat.le_of_ble_eq_true rfl) ?_
  intro p9 e9 s9 m9 a9 b9 t9 c9 cx hin9
  refine G.lv0 (lv2 := [(0, .ref x)]) rfl ?_
  refine G.aload_n (pc := 0) cx dX9_init_0 rfl 0 rfl ?_
  refine G.objI (pc := 1) cx dX9_init_1 wm_ml_X9_1 ⟨(Nat.le_of_ble_eq_true rfl), (Nat.le_of_ble_eq_true rfl)⟩ (Nat.le_of_ble_eq_true rfl) ?_
  refine G.aload_n (pc := 4) cx dX9_init_4 rfl 0 rfl ?_
  refine G.new (pc := 5) (fs := [.null, .null, .null, .null, .null, .int 0, .int 0, .int 0, .int 0, .int 0]) cx tyX0 tyX0_ok dX9_init_5 wm_cl_X9_7 inlX0 wm_ii_X0 wm_in_X0 (ci := 0) rfl (fun j hj => by revert j; decide) (Nat.le_of_ble_eq_true rfl) (Nat.le_of_ble_eq_true rfl) ?_
  refine G.dup (pc := 8) cx dX9_init_8 rfl ?_
  refine G.callI (pc := 9) (rest := [.ref (x + 1), .ref x]) cx (c_X0_init l K (vset V x (.inr (9, [.null, .null, .null, .null, .null]))) (x + 1)) ok_X0_init dX9_init_9 wm_ml_X9_9 rfl (Nat.le_of_ble_eq_true rfl) (by omega) ⟨(Nat.le_of_ble_eq_true rfl), (Nat.le_of_ble_eq_true rfl)⟩ ⟨(Nat.le_of_ble_eq_true rfl), (Nat.le_of_ble_eq_true rfl)⟩ ?_
  refine G.putF (pc := 12) (ci := 9) (fs := [.null, .null, .null, .null, .null]) (fs2 := [.ref (x + 1), .null, .null, .null, .null]) cx hin9 0 tyX9 tyX9_ok nmX9 dX9_init_12 wm_fl_X9_10 inlX9 rfl (by decide) rfl rfl rfl rfl rfl (by rw [bw_out (by omega)]; exact vset_self _ _ _) (by simp) rfl (G.cast (V' := (bw K (x + 1) z0C (vset V x (.inr (9, [.ref (x + 1), .null, .null, .null, .null]))))) (by rw [bw_vset (by omega), vset_vset]) ?_)
  refine G.aload_n (pc := 15) cx dX9_init_15 rfl 0 rfl ?_
  refine G.new (pc := 16) (fs := [.null, .null, .null, .null, .null, .int 0, .int 0, .int 0, .int 0, .int 0]) cx tyX0 tyX0_ok dX9_init_16 wm_cl_X9_7 inlX0 wm_ii_X0 wm_in_X0 (ci := 0) rfl (fun j hj => by revert j; decide) (Nat.le_of_ble_eq_true rfl) (Nat.le_of_ble_eq_true rfl) ?_
  refine G.dup (pc := 19) cx dX9_init_19 rfl ?_
  refine G.callI (pc := 20) (rest := [.ref (x + 32), .ref x]) cx (c_X0_init l K (bw K (x + 1) z0C (vset V x (.inr (9, [.ref (x + 1), .null, .null, .null, .null])))) (x + 32)) ok_X0_init dX9_init_20 wm_ml_X9_9 rfl (Nat.le_of_ble_eq_true rfl) (by omega) ⟨(Nat.le_of_ble_eq_true rfl), (Nat.le_of_ble_eq_true rfl)⟩ ⟨(Nat.le_of_ble_eq_true rfl), (Nat.le_of_ble_eq_true rfl)⟩ ?_
  refine G.putF (pc := 23) (ci := 9) (fs := [.ref (x + 1), .null, .null, .null, .null]) (fs2 := [.ref (x + 1), .ref (x + 32), .null, .null, .null]) cx hin9 1 tyX9 tyX9_ok nmX9 dX9_init_23 wm_fl_X9_16 inlX9 rfl (by decide) rfl rfl rfl rfl rfl (by rw [bw_out (by omega), bw_out (by omega)]; exact vset_self _ _ _) (by simp) rfl (G.cast (V' := (bw K (x + 32) z0C (bw K (x + 1) z0C (vset V x (.inr (9, [.ref (x + 1), .ref (x + 32), .null, .null, .null])))))) (by rw [bw_vset (by omega), bw_vset (by omega), vset_vset]) ?_)
  refine G.aload_n (pc := 26) cx dX9_init_26 rfl 0 rfl ?_
  refine G.new (pc := 27) (fs := [.null, .int 0]) cx tyX2 tyX2_ok dX9_init_27 wm_cl_X9_19 inlX2 wm_ii_X2 wm_in_X2 (ci := 2) rfl (fun j hj => by revert j; decide) (Nat.le_of_ble_eq_true rfl) (Nat.le_of_ble_eq_true rfl) ?_
  refine G.dup (pc := 30) cx dX9_init_30 rfl ?_
  refine G.callI (pc := 31) (rest := [.ref (x + 63), .ref x]) cx (c_X2_init l K (bw K (x + 32) z0C (bw K (x + 1) z0C (vset V x (.inr (9, [.ref (x + 1), .ref (x + 32), .null, .null, .null]))))) (x + 63)) ok_X2_init dX9_init_31 wm_ml_X9_21 rfl (Nat.le_of_ble_eq_true rfl) (by omega) ⟨(Nat.le_of_ble_eq_true rfl), (Nat.le_of_ble_eq_true rfl)⟩ ⟨(Nat.le_of_ble_eq_true rfl), (Nat.le_of_ble_eq_true rfl)⟩ ?_
  refine G.putF (pc := 34) (ci := 9) (fs := [.ref (x + 1), .ref (x + 32), .null, .null, .null]) (fs2 := [.ref (x + 1), .ref (x + 32), .ref (x + 63), .null, .null]) cx hin9 2 tyX9 tyX9_ok nmX9 dX9_init_34 wm_fl_X9_22 inlX9 rfl (by decide) rfl rfl rfl rfl rfl (by rw [hp_out (by omega), bw_out (by omega), bw_out (by omega)]; exact vset_self _ _ _) (by simp) rfl (G.cast (V' := (hp K (x + 63) (bw K (x + 32) z0C (bw K (x + 1) z0C (vset V x (.inr (9, [.ref (x + 1), .ref (x + 32), .ref (x + 63), .null, .null]))))) 4)) (by rw [hp_vset (by omega), bw_vset (by omega), bw_vset (by omega), vset_vset]) ?_)
  refine G.aload_n (pc := 37) cx dX9_init_37 rfl 0 rfl ?_
  refine G.new (pc := 38) (fs := [.null, .int 0]) cx tyX7 tyX7_ok dX9_init_38 wm_cl_X9_26 inlX7 wm_ii_X7 wm_in_X7 (ci := 7) rfl (fun j hj => by revert j; decide) (Nat.le_of_ble_eq_true rfl) (Nat.le_of_ble_eq_true rfl) ?_
  refine G.dup (pc := 41) cx dX9_init_41 rfl ?_
  refine G.callI (pc := 42) (rest := [.ref (x + 189), .ref x]) cx (c_X7_init l K (hp K (x + 63) (bw K (x + 32) z0C (bw K (x + 1) z0C (vset V x (.inr (9, [.ref (x + 1), .ref (x + 32), .ref (x + 63), .null, .null]))))) 4) (x + 189)) ok_X7_init dX9_init_42 wm_ml_X9_28 rfl (Nat.le_of_ble_eq_true rfl) (by omega) ⟨(Nat.le_of_ble_eq_true rfl), (Nat.le_of_ble_eq_true rfl)⟩ ⟨(Nat.le_of_ble_eq_true rfl), (Nat.le_of_ble_eq_true rfl)⟩ ?_
  refine G.putF (pc := 45) (ci := 9) (fs := [.ref (x + 1), .ref (x + 32), .ref (x + 63), .null, .null]) (fs2 := [.ref (x + 1), .ref (x + 32), .ref (x + 63), .ref (x + 189), .null]) cx hin9 3 tyX9 tyX9_ok nmX9 dX9_init_45 wm_fl_X9_29 inlX9 rfl (by decide) rfl rfl rfl rfl rfl (by rw [vset_ne _ _ (by omega), vset_ne _ _ (by omega), hp_out (by omega), bw_out (by omega), bw_out (by omega)]; exact vset_self _ _ _) (by simp) rfl (G.cast (V' := (vset (vset (hp K (x + 63) (bw K (x + 32) z0C (bw K (x + 1) z0C (vset V x (.inr (9, [.ref (x + 1), .ref (x + 32), .ref (x + 63), .ref (x + 189), .null]))))) 4) (x + 189) (.inr (7, [.ref (x + 189 + 1), .int 0]))) (x + 189 + 1) (.inl (K.2.1 0, 60, .inl (fun _ => 0))))) (by rw [vset_comm (show x + 189 + 1 ≠ x by omega), vset_comm (show x + 189 ≠ x by omega), hp_vset (by omega), bw_vset (by omega), bw_vset (by omega), vset_vset]) ?_)
  refine G.aload_n (pc := 48) cx dX9_init_48 rfl 0 rfl ?_
  refine G.new (pc := 49) (fs := [.null, .int 0, .int 0, .int 0, .int 0]) cx tyX5 tyX5_ok dX9_init_49 wm_cl_X9_33 inlX5 wm_ii_X5 wm_in_X5 (ci := 5) rfl (fun j hj => by revert j; decide) (Nat.le_of_ble_eq_true rfl) (Nat.le_of_ble_eq_true rfl) ?_
  refine G.dup (pc := 52) cx dX9_init_52 rfl ?_
  refine G.callI (pc := 53) (rest := [.ref (x + 191), .ref x]) cx (c_X5_init l K (vset (vset (hp K (x + 63) (bw K (x + 32) z0C (bw K (x + 1) z0C (vset V x (.inr (9, [.ref (x + 1), .ref (x + 32), .ref (x + 63), .ref (x + 189), .null]))))) 4) (x + 189) (.inr (7, [.ref (x + 189 + 1), .int 0]))) (x + 189 + 1) (.inl (K.2.1 0, 60, .inl (fun _ => 0)))) (x + 191)) ok_X5_init dX9_init_53 wm_ml_X9_35 rfl (Nat.le_of_ble_eq_true rfl) (by omega) ⟨(Nat.le_of_ble_eq_true rfl), (Nat.le_of_ble_eq_true rfl)⟩ ⟨(Nat.le_of_ble_eq_true rfl), (Nat.le_of_ble_eq_true rfl)⟩ ?_
  refine G.putF (pc := 56) (ci := 9) (fs := [.ref (x + 1), .ref (x + 32), .ref (x + 63), .ref (x + 189), .null]) (fs2 := [.ref (x + 1), .ref (x + 32), .ref (x + 63), .ref (x + 189), .ref (x + 191)]) cx hin9 4 tyX9 tyX9_ok nmX9 dX9_init_56 wm_fl_X9_36 inlX9 rfl (by decide) rfl rfl rfl rfl rfl (by rw [vset_ne _ _ (by omega), vset_ne _ _ (by omega), vset_ne _ _ (by omega), vset_ne _ _ (by omega), vset_ne _ _ (by omega), hp_out (by omega), bw_out (by omega), bw_out (by omega)]; exact vset_self _ _ _) (by simp) rfl (G.cast (V' := (vset (vset (vset (vset (vset (hp K (x + 63) (bw K (x + 32) z0C (bw K (x + 1) z0C (vset V x (.inr (9, [.ref (x + 1), .ref (x + 32), .ref (x + 63), .ref (x + 189), .ref (x + 191)]))))) 4) (x + 189) (.inr (7, [.ref (x + 189 + 1), .int 0]))) (x + 189 + 1) (.inl (K.2.1 0, 60, .inl (fun _ => 0)))) (x + 191) (.inr (5, [.ref (x + 191 + 1), .int 0, .int 0, .int 0, .int 0]))) (x + 191 + 1) (.inr (4, [.ref (x + 191 + 2), .int 0, .int 0]))) (x + 191 + 2) (.inl (K.2.1 0, 3, .inl (fun _ => 0))))) (by rw [vset_comm (show x + 191 + 2 ≠ x by omega), vset_comm (show x + 191 + 1 ≠ x by omega), vset_comm (show x + 191 ≠ x by omega), vset_comm (show x + 189 + 1 ≠ x by omega), vset_comm (show x + 189 ≠ x by omega), hp_vset (by omega), bw_vset (by omega), bw_vset (by omega), vset_vset]) ?_)
  exact G.vret (pc := 59) cx rfl dX9_init_59 rfl (ww_0 K x V) rfl
theorem in_arr {s : State} {args : Array Value} (h : (Cond.arrayClass .int).before args s = true) : ∃ cA : ClassId, ArrOfT s cA .int ∧ va_RA s cA .int := by
  obtain ⟨cA, k, comp, h1, h2, h3⟩ := Cond.arrayClass_spec h
  exact ⟨cA, fun N z => ⟨(fun k h => by cases h), k, h2, comp, h3⟩, h1⟩
theorem ov_arr {s : State} {args : Array Value} {C : String} (h : (Cond.arrayOver (.object C)).before args s = true) : ∃ cA : ClassId, ArrOfT s cA (.object C) ∧ va_RA s cA (.object C) := by
  obtain ⟨comp, cA, k, h1, h2, h3, h4, h5⟩ := Cond.arrayOver_spec h
  exact ⟨cA, fun N z => ⟨(fun k h => by cases h), k, h3, comp, h4⟩, k, comp, h3, h4, h1, h5⟩
theorem fS_all : ∀ j, j < 3 → (fun j => Value.int (fS j)) j = .int (fS j) := fun _ _ => rfl
theorem z0_lo {i : Nat} (h : i < 195 ∨ (195 < i ∧ i < 203) ∨ 205 < i) : z0C i = 0 := by
  unfold z0C
  rw [upd_n _ _ (by omega), upd_n _ _ (by omega), upd_n _ _ (by omega), upd_n _ _ (by omega)]
theorem z0_inv : INV 0 0 z0C := by
  refine ⟨⟨by decide, by omega⟩, Or.inl (by decide), ⟨50, 25, 2, ⟨by decide, by omega, by omega⟩, ⟨by decide, by omega, by omega⟩, ⟨by decide, by omega, by omega⟩⟩, ⟨500, by decide, by omega, by omega⟩, ⟨0, by omega, by decide⟩, ⟨0, by omega, by decide⟩, fun j hj => ⟨0, 0, ?_, ?_, by omega, by omega, by omega, by omega, Or.inr rfl⟩, ⟨0, by decide, by omega, by omega, fun k hk => absurd hk (by omega)⟩⟩
  · rw [z0_lo (by omega)]; exact i0
  · rw [z0_lo (by omega)]; exact i0
theorem z0_re : Re 0 z0C (fun _ => z0C) (fun k => k) (fun _ => 0) (fun _ => 0) r0C 0 0 0 :=
  ⟨z0_inv, ⟨by omega, by decide, by decide⟩, ⟨by omega, by decide, by decide⟩, fun i hi => absurd hi (by omega), fun k hk => hk, fun k l _ _ h => h, fun k hk => absurd hk (by omega)⟩
section lawloop
variable {K : KT} {p : Program} {l : Launch} {e : Env} {s : State} {m : MethodId} {below : List Frame} {meth : Method} {c : Code}
variable {V0 : VW} {sz cells slots b L x o : Nat} {xs : Nat → Int32}
theorem law_end (cx : Cx K p s m #[Value.ref b] meth c RL cL_law 4 ret) (hk : kn K = s.heap.size) (hcs : cells ≤ room_1.cells ∧ slots ≤ room_1.slots) {V : VW} {lv : List (Nat × Value)} : G K p l e room_1 s m #[Value.ref b] below meth c (lw_Z below #[Value.ref b] s) 4 V sz cells slots 927 lv [] := by
  refine G.iconst (pc := 927) cx dL_law_927 (v := 1) (by decide) ?_
  intro H locs ls h1 h2 h3 h4
  refine va_forget (fun q hq => ?_) ?_
  · have h5 := h3.2.2 q hq
    unfold kA at h5
    rw [hk] at h5; exact h5
  refine W.widen (k := 600000) (n := 7302250) hcs.1 hcs.2 ?_
  refine W.base ?_
  exact lw_ret (Drawn.sameBut.refl s.drawn lw_cs) cx.1 cx.2.1 cx.2.2.2.2.2.2.2.2.2 cx.2.2.2.2.2.2.2.2.1 dL_law_928
set_option maxHeartbeats 4000000 in
set_option maxRecDepth 100000 in
theorem law_loop (cx : Cx K p s m #[Value.ref b] meth c RL cL_law 4 ret) (hk : kn K = s.heap.size) (hX : va_X b L xs s s.heap) (hbl : b < s.heap.size) (hL : L ≤ 2048) (ho : x + 194 ≤ o) (hcs : cells ≤ room_1.cells ∧ slots ≤ room_1.slots) :
    ∀ (n i1 : Nat) (V : VW), L < 4 * i1 + 4 * n + 4 → i1 ≤ 512 → Two K x o V0 (64 * i1) V → G K p l e room_1 s m #[Value.ref b] below meth c (lw_Z below #[Value.ref b] s) 4 V sz cells slots 18 [(0, .ref b), (1, .ref x), (2, .ref o), (3, .int (nI (4 * i1)))] [] := by
  have hbA : ¬ kA K b := by unfold kA; rw [hk]; omega
  have hcmp : ∀ i1 : Nat, i1 ≤ 512 → (nI L - nI 4 < nI (4 * i1) ↔ L < 4 * i1 + 4) := by
    intro i1 h1
    rw [Int32.lt_iff_toInt_lt, pk_sub_toInt (by omega) (by decide), nI_toInt (by omega)]
    omega
  intro n
  induction n with
  | zero =>
    intro i1 V hn h1 hV
    refine G.iload_n (pc := 18) cx dL_law_18 rfl 3 rfl ?_
    refine G.aload_n (pc := 19) cx dL_law_19 rfl 0 rfl ?_
    refine G.slen (pc := 20) cx hX hbl hbA dL_law_20 ?_
    refine G.iconst (pc := 21) cx dL_law_21 (v := nI 4) (by decide) ?_
    refine G.isub (pc := 22) cx dL_law_22 ?_
    refine G.icmp_gt (pc := 23) cx dL_law_23 (tgt := 927) (by decide) (fun cq => ?_) (fun cq => ?_)
    · exact law_end cx hk hcs
    · exact absurd ((hcmp i1 h1).mpr (by omega)) cq
  | succ n ih =>
    intro i1 V hn h1 hV
    refine G.iload_n (pc := 18) cx dL_law_18 rfl 3 rfl ?_
    refine G.aload_n (pc := 19) cx dL_law_19 rfl 0 rfl ?_
    refine G.slen (pc := 20) cx hX hbl hbA dL_law_20 ?_
    refine G.iconst (pc := 21) cx dL_law_21 (v := nI 4) (by decide) ?_
    refine G.isub (pc := 22) cx dL_law_22 ?_
    refine G.icmp_gt (pc := 23) cx dL_law_23 (tgt := 927) (by decide) (fun cq => ?_) (fun cq => ?_)
    · exact law_end cx hk hcs
    have hi : 4 * i1 + 4 ≤ L := Nat.not_lt.mp (fun q => cq ((hcmp i1 h1).mpr q))
    refine G.aload_n (pc := 26) cx dL_law_26 rfl 0 rfl ?_
    refine G.iload_n (pc := 27) cx dL_law_27 rfl 3 rfl ?_
    refine G.sld (pc := 28) cx hX hbl hbA dL_law_28 (4 * i1) (by omega) hL ?_
    refine G.bipush (pc := 29) cx dL_law_29 (v := 31) (by decide) ?_
    refine G.iand (pc := 31) cx dL_law_31 ?_
    have htail : ∀ V2, Two K x o V0 (64 * i1 + 64) V2 → G K p l e room_1 s m #[Value.ref b] below meth c (lw_Z below #[Value.ref b] s) 4 V2 sz cells slots 921 [(0, .ref b), (1, .ref x), (2, .ref o), (3, .int (nI (4 * i1)))] [] := by
      intro V2 hT
      refine G.iinc (pc := 921) cx dL_law_921 (v := nI (4 * (i1 + 1))) (k := 3) rfl (nI_add (4 * i1) 4) (by decide) rfl ?_
      refine G.goto (pc := 924) cx dL_law_924 (tgt := 18) (by decide) ?_
      refine G.castL [1, 2, 3, 0] rfl ?_
      exact ih (i1 + 1) V2 (by omega) (by omega) hT
    obtain ⟨j, hj, ej⟩ := pk_andE (xs (4 * i1)) (m := 31) 5 (by decide)
    rw [ej]
    by_cases hj29 : 29 ≤ j
    · refine G.tableOut (pc := 32) cx dL_law_32 (Or.inr ?_) (tgt := 921) (by decide) (htail V ?_)
      · rw [nI_toInt (by omega)]; omega
      · obtain ⟨z, t, h, π, f, u, g, r, N, n2, L2, rfl, hs, hR⟩ := hV
        exact ⟨z, t, h, π, f, u, g, r, N, n2, L2, rfl, hs, Re_same hR (Nat.le_add_right _ 64) rfl rfl rfl rfl rfl rfl⟩
    have hd : j = 0 ∨ j = 1 ∨ j = 2 ∨ j = 3 ∨ j = 4 ∨ j = 5 ∨ j = 6 ∨ j = 7 ∨ j = 8 ∨ j = 9 ∨ j = 10 ∨ j = 11 ∨ j = 12 ∨ j = 13 ∨ j = 14 ∨ j = 15 ∨ j = 16 ∨ j = 17 ∨ j = 18 ∨ j = 19 ∨ j = 20 ∨ j = 21 ∨ j = 22 ∨ j = 23 ∨ j = 24 ∨ j = 25 ∨ j = 26 ∨ j = 27 ∨ j = 28 := by omega
    rcases hd with rfl | rfl | rfl | rfl | rfl | rfl | rfl | rfl | rfl | rfl | rfl | rfl | rfl | rfl | rfl | rfl | rfl | rfl | rfl | rfl | rfl | rfl | rfl | rfl | rfl | rfl | rfl | rfl | rfl
    · exact G.tableIn (pc := 32) cx dL_law_32 (by decide) (by decide) (off := 132) (by decide) (tgt := 164) (by decide) (lc_0 cx hX hbl hbA hi hL ho (by omega) hV hcs htail)
    · exact G.tableIn (pc := 32) cx dL_law_32 (by decide) (by decide) (off := 165) (by decide) (tgt := 197) (by decide) (lc_1 cx hX hbl hbA hi hL ho (by omega) hV hcs htail)
    · exact G.tableIn (pc := 32) cx dL_law_32 (by decide) (by decide) (off := 208) (by decide) (tgt := 240) (by decide) (lc_2 cx hX hbl hbA hi hL ho (by omega) hV hcs htail)
    · exact G.tableIn (pc := 32) cx dL_law_32 (by decide) (by decide) (off := 251) (by decide) (tgt := 283) (by decide) (lc_3 cx hX hbl hbA hi hL ho (by omega) hV hcs htail)
    · exact G.tableIn (pc := 32) cx dL_law_32 (by decide) (by decide) (off := 284) (by decide) (tgt := 316) (by decide) (lc_4 cx hX hbl hbA hi hL ho (by omega) hV hcs htail)
    · exact G.tableIn (pc := 32) cx dL_law_32 (by decide) (by decide) (off := 317) (by decide) (tgt := 349) (by decide) (lc_5 cx hX hbl hbA hi hL ho (by omega) hV hcs htail)
    · exact G.tableIn (pc := 32) cx dL_law_32 (by decide) (by decide) (off := 350) (by decide) (tgt := 382) (by decide) (lc_6 cx hX hbl hbA hi hL ho (by omega) hV hcs htail)
    · exact G.tableIn (pc := 32) cx dL_law_32 (by decide) (by decide) (off := 373) (by decide) (tgt := 405) (by decide) (lc_7 cx hX hbl hbA hi hL ho (by omega) hV hcs htail)
    · exact G.tableIn (pc := 32) cx dL_law_32 (by decide) (by decide) (off := 406) (by decide) (tgt := 438) (by decide) (lc_8 cx hX hbl hbA hi hL ho (by omega) hV hcs htail)
    · exact G.tableIn (pc := 32) cx dL_law_32 (by decide) (by decide) (off := 419) (by decide) (tgt := 451) (by decide) (lc_9 cx hX hbl hbA hi hL ho (by omega) hV hcs htail)
    · exact G.tableIn (pc := 32) cx dL_law_32 (by decide) (by decide) (off := 432) (by decide) (tgt := 464) (by decide) (lc_10 cx hX hbl hbA hi hL ho (by omega) hV hcs htail)
    · exact G.tableIn (pc := 32) cx dL_law_32 (by decide) (by decide) (off := 455) (by decide) (tgt := 487) (by decide) (lc_11 cx hX hbl hbA hi hL ho (by omega) hV hcs htail)
    · exact G.tableIn (pc := 32) cx dL_law_32 (by decide) (by decide) (off := 478) (by decide) (tgt := 510) (by decide) (lc_12 cx hX hbl hbA hi hL ho (by omega) hV hcs htail)
    · exact G.tableIn (pc := 32) cx dL_law_32 (by decide) (by decide) (off := 491) (by decide) (tgt := 523) (by decide) (lc_13 cx hX hbl hbA hi hL ho (by omega) hV hcs htail)
    · exact G.tableIn (pc := 32) cx dL_law_32 (by decide) (by decide) (off := 524) (by decide) (tgt := 556) (by decide) (lc_14 cx hX hbl hbA hi hL ho (by omega) hV hcs htail)
    · exact G.tableIn (pc := 32) cx dL_law_32 (by decide) (by decide) (off := 557) (by decide) (tgt := 589) (by decide) (lc_15 cx hX hbl hbA hi hL ho (by omega) hV hcs htail)
    · exact G.tableIn (pc := 32) cx dL_law_32 (by decide) (by decide) (off := 590) (by decide) (tgt := 622) (by decide) (lc_16 cx hX hbl hbA hi hL ho (by omega) hV hcs htail)
    · exact G.tableIn (pc := 32) cx dL_law_32 (by decide) (by decide) (off := 623) (by decide) (tgt := 655) (by decide) (lc_17 cx hX hbl hbA hi hL ho (by omega) hV hcs htail)
    · exact G.tableIn (pc := 32) cx dL_law_32 (by decide) (by decide) (off := 666) (by decide) (tgt := 698) (by decide) (lc_18 cx hX hbl hbA hi hL ho (by omega) hV hcs htail)
    · exact G.tableIn (pc := 32) cx dL_law_32 (by decide) (by decide) (off := 699) (by decide) (tgt := 731) (by decide) (lc_19 cx hX hbl hbA hi hL ho (by omega) hV hcs htail)
    · exact G.tableIn (pc := 32) cx dL_law_32 (by decide) (by decide) (off := 722) (by decide) (tgt := 754) (by decide) (lc_20 cx hX hbl hbA hi hL ho (by omega) hV hcs htail)
    · exact G.tableIn (pc := 32) cx dL_law_32 (by decide) (by decide) (off := 745) (by decide) (tgt := 777) (by decide) (lc_21 cx hX hbl hbA hi hL ho (by omega) hV hcs htail)
    · exact G.tableIn (pc := 32) cx dL_law_32 (by decide) (by decide) (off := 768) (by decide) (tgt := 800) (by decide) (lc_22 cx hX hbl hbA hi hL ho (by omega) hV hcs htail)
    · exact G.tableIn (pc := 32) cx dL_law_32 (by decide) (by decide) (off := 781) (by decide) (tgt := 813) (by decide) (lc_23 cx hX hbl hbA hi hL ho (by omega) hV hcs htail)
    · exact G.tableIn (pc := 32) cx dL_law_32 (by decide) (by decide) (off := 804) (by decide) (tgt := 836) (by decide) (lc_24 cx hX hbl hbA hi hL ho (by omega) hV hcs htail)
    · exact G.tableIn (pc := 32) cx dL_law_32 (by decide) (by decide) (off := 817) (by decide) (tgt := 849) (by decide) (lc_25 cx hX hbl hbA hi hL ho (by omega) hV hcs htail)
    · exact G.tableIn (pc := 32) cx dL_law_32 (by decide) (by decide) (off := 840) (by decide) (tgt := 872) (by decide) (lc_26 cx hX hbl hbA hi hL ho (by omega) hV hcs htail)
    · exact G.tableIn (pc := 32) cx dL_law_32 (by decide) (by decide) (off := 853) (by decide) (tgt := 885) (by decide) (lc_27 cx hX hbl hbA hi hL ho (by omega) hV hcs htail)
    · exact G.tableIn (pc := 32) cx dL_law_32 (by decide) (by decide) (off := 876) (by decide) (tgt := 908) (by decide) (lc_28 cx hX hbl hbA hi hL ho (by omega) hV hcs htail)
end lawloop
