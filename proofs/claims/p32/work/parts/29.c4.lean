set_option maxHeartbeats 4000000 in
set_option maxRecDepth 100000 in
theorem c_X6_copyFrom (l : Launch) (K : KT) (sz : Nat) (b : Nat) (z : Zt) (V : VW) (k : Nat) (b2 : Nat) (z2 : Zt) (hk : k < 16) (hA : apt b b2) (hO : bw K b2 z2 V = V) : Ct l K yX6_copyFrom cX6_copyFrom 2 none 0 [.ref (b + 2 + k), .ref (b2 + 2 + k)] (bw K b z V) sz none (bw K b (cpR z z2 (10 * k) 10) V) sz 0 0 := by
  refine Ct.ofG (by decide) (Nat.le_of_ble_eq_true rfl) ?_
  intro p9 e9 s9 m9 a9 b9 t9 c9 cx hin9
  refine G.lv0 (lv2 := [(0, .ref (b + 2 + k)), (1, .ref (b2 + 2 + k))]) rfl ?_
  refine G.aload_n (pc := 0) cx dX6_copyFrom_0 rfl 0 rfl ?_
  refine G.aload_n (pc := 1) cx dX6_copyFrom_1 rfl 1 rfl ?_
  refine G.getV (pc := 2) cx dX6_copyFrom_2 (T := TX6) 0 wm_fl_X6_9 inlX6 rfl (by decide) (ob_s hA hO (by omega)) rfl ?_
  refine G.putS (pc := 5) cx dX6_copyFrom_5 0 wm_fl_X6_9 (by decide) (by decide) (by omega) ?_
  refine G.aload_n (pc := 8) cx dX6_copyFrom_8 rfl 0 rfl ?_
  refine G.aload_n (pc := 9) cx dX6_copyFrom_9 rfl 1 rfl ?_
  refine G.getV (pc := 10) cx dX6_copyFrom_10 (T := TX6) 1 wm_fl_X6_15 inlX6 rfl (by decide) (ob_s hA hO (by omega)) rfl ?_
  refine G.putS (pc := 13) cx dX6_copyFrom_13 1 wm_fl_X6_15 (by decide) (by decide) (by omega) ?_
  refine G.aload_n (pc := 16) cx dX6_copyFrom_16 rfl 0 rfl ?_
  refine G.aload_n (pc := 17) cx dX6_copyFrom_17 rfl 1 rfl ?_
  refine G.getV (pc := 18) cx dX6_copyFrom_18 (T := TX6) 2 wm_fl_X6_18 inlX6 rfl (by decide) (ob_s hA hO (by omega)) rfl ?_
  refine G.putS (pc := 21) cx dX6_copyFrom_21 2 wm_fl_X6_18 (by decide) (by decide) (by omega) ?_
  refine G.aload_n (pc := 24) cx dX6_copyFrom_24 rfl 0 rfl ?_
  refine G.aload_n (pc := 25) cx dX6_copyFrom_25 rfl 1 rfl ?_
  refine G.getV (pc := 26) cx dX6_copyFrom_26 (T := TX6) 3 wm_fl_X6_21 inlX6 rfl (by decide) (ob_s hA hO (by omega)) rfl ?_
  refine G.putS (pc := 29) cx dX6_copyFrom_29 3 wm_fl_X6_21 (by decide) (by decide) (by omega) ?_
  refine G.aload_n (pc := 32) cx dX6_copyFrom_32 rfl 0 rfl ?_
  refine G.aload_n (pc := 33) cx dX6_copyFrom_33 rfl 1 rfl ?_
  refine G.getV (pc := 34) cx dX6_copyFrom_34 (T := TX6) 4 wm_fl_X6_24 inlX6 rfl (by decide) (ob_s hA hO (by omega)) rfl ?_
  refine G.putS (pc := 37) cx dX6_copyFrom_37 4 wm_fl_X6_24 (by decide) (by decide) (by omega) ?_
  refine G.aload_n (pc := 40) cx dX6_copyFrom_40 rfl 0 rfl ?_
  refine G.aload_n (pc := 41) cx dX6_copyFrom_41 rfl 1 rfl ?_
  refine G.getV (pc := 42) cx dX6_copyFrom_42 (T := TX6) 5 wm_fl_X6_27 inlX6 rfl (by decide) (ob_s hA hO (by omega)) rfl ?_
  refine G.putS (pc := 45) cx dX6_copyFrom_45 5 wm_fl_X6_27 (by decide) (by decide) (by omega) ?_
  refine G.aload_n (pc := 48) cx dX6_copyFrom_48 rfl 0 rfl ?_
  refine G.aload_n (pc := 49) cx dX6_copyFrom_49 rfl 1 rfl ?_
  refine G.getV (pc := 50) cx dX6_copyFrom_50 (T := TX6) 6 wm_fl_X6_30 inlX6 rfl (by decide) (ob_s hA hO (by omega)) rfl ?_
  refine G.putS (pc := 53) cx dX6_copyFrom_53 6 wm_fl_X6_30 (by decide) (by decide) (by omega) ?_
  refine G.aload_n (pc := 56) cx dX6_copyFrom_56 rfl 0 rfl ?_
  refine G.aload_n (pc := 57) cx dX6_copyFrom_57 rfl 1 rfl ?_
  refine G.getV (pc := 58) cx dX6_copyFrom_58 (T := TX6) 7 wm_fl_X6_33 inlX6 rfl (by decide) (ob_s hA hO (by omega)) rfl ?_
  refine G.putS (pc := 61) cx dX6_copyFrom_61 7 wm_fl_X6_33 (by decide) (by decide) (by omega) ?_
  refine G.aload_n (pc := 64) cx dX6_copyFrom_64 rfl 0 rfl ?_
  refine G.aload_n (pc := 65) cx dX6_copyFrom_65 rfl 1 rfl ?_
  refine G.getV (pc := 66) cx dX6_copyFrom_66 (T := TX6) 8 wm_fl_X6_36 inlX6 rfl (by decide) (ob_s hA hO (by omega)) rfl ?_
  refine G.putS8 (pc := 69) cx dX6_copyFrom_69 wm_fl_X6_36 (by omega) ?_
  refine G.aload_n (pc := 72) cx dX6_copyFrom_72 rfl 0 rfl ?_
  refine G.aload_n (pc := 73) cx dX6_copyFrom_73 rfl 1 rfl ?_
  refine G.getV (pc := 74) cx dX6_copyFrom_74 (T := TX6) 9 wm_fl_X6_39 inlX6 rfl (by decide) (ob_s hA hO (by omega)) rfl ?_
  refine G.putS (pc := 77) cx dX6_copyFrom_77 9 wm_fl_X6_39 (by decide) (by decide) (by omega) ?_
  refine G.vret (pc := 80) cx rfl dX6_copyFrom_80 rfl ?_ rfl
  · refine congrArg (fun x => bw K b x V) ?_
    (try clear hin9); (try clear cx); exact cp_s z z2 k
set_option maxHeartbeats 4000000 in
set_option maxRecDepth 100000 in
theorem c_X3_copyFrom (l : Launch) (K : KT) (sz : Nat) (b : Nat) (z : Zt) (V : VW) (j : Nat) (b2 : Nat) (z2 : Zt) (hj : j < 6) (hA : apt b b2) (hO : bw K b2 z2 V = V) : Ct l K yX3_copyFrom cX3_copyFrom 2 none 0 [.ref (b + 19 + j), .ref (b2 + 19 + j)] (bw K b z V) sz none (bw K b (cpR z z2 (160 + 5 * j) 5) V) sz 0 0 := by
  refine Ct.ofG (by decide) (Nat.le_of_ble_eq_true rfl) ?_
  intro p9 e9 s9 m9 a9 b9 t9 c9 cx hin9
  refine G.lv0 (lv2 := [(0, .ref (b + 19 + j)), (1, .ref (b2 + 19 + j))]) rfl ?_
  refine G.aload_n (pc := 0) cx dX3_copyFrom_0 rfl 0 rfl ?_
  refine G.aload_n (pc := 1) cx dX3_copyFrom_1 rfl 1 rfl ?_
  refine G.getV (pc := 2) cx dX3_copyFrom_2 (T := TX3) 0 wm_fl_X3_9 inlX3 rfl (by decide) (ob_i hA hO (by omega)) rfl ?_
  refine G.putI (pc := 5) cx dX3_copyFrom_5 0 wm_fl_X3_9 (by decide) (by omega) ?_
  refine G.aload_n (pc := 8) cx dX3_copyFrom_8 rfl 0 rfl ?_
  refine G.aload_n (pc := 9) cx dX3_copyFrom_9 rfl 1 rfl ?_
  refine G.getV (pc := 10) cx dX3_copyFrom_10 (T := TX3) 1 wm_fl_X3_15 inlX3 rfl (by decide) (ob_i hA hO (by omega)) rfl ?_
  refine G.putI (pc := 13) cx dX3_copyFrom_13 1 wm_fl_X3_15 (by decide) (by omega) ?_
  refine G.aload_n (pc := 16) cx dX3_copyFrom_16 rfl 0 rfl ?_
  refine G.aload_n (pc := 17) cx dX3_copyFrom_17 rfl 1 rfl ?_
  refine G.getV (pc := 18) cx dX3_copyFrom_18 (T := TX3) 2 wm_fl_X3_18 inlX3 rfl (by decide) (ob_i hA hO (by omega)) rfl ?_
  refine G.putI (pc := 21) cx dX3_copyFrom_21 2 wm_fl_X3_18 (by decide) (by omega) ?_
  refine G.aload_n (pc := 24) cx dX3_copyFrom_24 rfl 0 rfl ?_
  refine G.aload_n (pc := 25) cx dX3_copyFrom_25 rfl 1 rfl ?_
  refine G.getV (pc := 26) cx dX3_copyFrom_26 (T := TX3) 3 wm_fl_X3_21 inlX3 rfl (by decide) (ob_i hA hO (by omega)) rfl ?_
  refine G.putI (pc := 29) cx dX3_copyFrom_29 3 wm_fl_X3_21 (by decide) (by omega) ?_
  refine G.aload_n (pc := 32) cx dX3_copyFrom_32 rfl 0 rfl ?_
  refine G.aload_n (pc := 33) cx dX3_copyFrom_33 rfl 1 rfl ?_
  refine G.getV (pc := 34) cx dX3_copyFrom_34 (T := TX3) 4 wm_fl_X3_24 inlX3 rfl (by decide) (ob_i hA hO (by omega)) rfl ?_
  refine G.putI (pc := 37) cx dX3_copyFrom_37 4 wm_fl_X3_24 (by decide) (by omega) ?_
  refine G.vret (pc := 40) cx rfl dX3_copyFrom_40 rfl ?_ rfl
  · refine congrArg (fun x => bw K b x V) ?_
    (try clear hin9); (try clear cx); exact cp_i z z2 j
set_option maxHeartbeats 4000000 in
set_option maxRecDepth 100000 in
theorem c_X8_copyFrom (l : Launch) (K : KT) (sz : Nat) (b : Nat) (z : Zt) (V : VW) (b2 : Nat) (z2 : Zt) (hA : apt b b2) (hO : bw K b2 z2 V = V) : Ct l K yX8_copyFrom cX8_copyFrom 2 none 0 [.ref (b + 30), .ref (b2 + 30)] (bw K b z V) sz none (bw K b (cpR z z2 195 8) V) sz 0 0 := by
  refine Ct.ofG (by decide) (Nat.le_of_ble_eq_true rfl) ?_
  intro p9 e9 s9 m9 a9 b9 t9 c9 cx hin9
  refine G.lv0 (lv2 := [(0, .ref (b + 30)), (1, .ref (b2 + 30))]) rfl ?_
  refine G.aload_n (pc := 0) cx dX8_copyFrom_0 rfl 0 rfl ?_
  refine G.aload_n (pc := 1) cx dX8_copyFrom_1 rfl 1 rfl ?_
  refine G.getV (pc := 2) cx dX8_copyFrom_2 (T := TX8) 0 wm_fl_X8_9 inlX8 rfl (by decide) (ob_t hA hO) rfl ?_
  refine G.putT (pc := 5) cx dX8_copyFrom_5 0 wm_fl_X8_9 (by decide) ?_
  refine G.aload_n (pc := 8) cx dX8_copyFrom_8 rfl 0 rfl ?_
  refine G.aload_n (pc := 9) cx dX8_copyFrom_9 rfl 1 rfl ?_
  refine G.getV (pc := 10) cx dX8_copyFrom_10 (T := TX8) 1 wm_fl_X8_15 inlX8 rfl (by decide) (ob_t hA hO) rfl ?_
  refine G.putT (pc := 13) cx dX8_copyFrom_13 1 wm_fl_X8_15 (by decide) ?_
  refine G.aload_n (pc := 16) cx dX8_copyFrom_16 rfl 0 rfl ?_
  refine G.aload_n (pc := 17) cx dX8_copyFrom_17 rfl 1 rfl ?_
  refine G.getV (pc := 18) cx dX8_copyFrom_18 (T := TX8) 2 wm_fl_X8_18 inlX8 rfl (by decide) (ob_t hA hO) rfl ?_
  refine G.putT (pc := 21) cx dX8_copyFrom_21 2 wm_fl_X8_18 (by decide) ?_
  refine G.aload_n (pc := 24) cx dX8_copyFrom_24 rfl 0 rfl ?_
  refine G.aload_n (pc := 25) cx dX8_copyFrom_25 rfl 1 rfl ?_
  refine G.getV (pc := 26) cx dX8_copyFrom_26 (T := TX8) 3 wm_fl_X8_21 inlX8 rfl (by decide) (ob_t hA hO) rfl ?_
  refine G.putT (pc := 29) cx dX8_copyFrom_29 3 wm_fl_X8_21 (by decide) ?_
  refine G.aload_n (pc := 32) cx dX8_copyFrom_32 rfl 0 rfl ?_
  refine G.aload_n (pc := 33) cx dX8_copyFrom_33 rfl 1 rfl ?_
  refine G.getV (pc := 34) cx dX8_copyFrom_34 (T := TX8) 4 wm_fl_X8_24 inlX8 rfl (by decide) (ob_t hA hO) rfl ?_
  refine G.putT (pc := 37) cx dX8_copyFrom_37 4 wm_fl_X8_24 (by decide) ?_
  refine G.aload_n (pc := 40) cx dX8_copyFrom_40 rfl 0 rfl ?_
  refine G.aload_n (pc := 41) cx dX8_copyFrom_41 rfl 1 rfl ?_
  refine G.getV (pc := 42) cx dX8_copyFrom_42 (T := TX8) 5 wm_fl_X8_27 inlX8 rfl (by decide) (ob_t hA hO) rfl ?_
  refine G.putT (pc := 45) cx dX8_copyFrom_45 5 wm_fl_X8_27 (by decide) ?_
  refine G.aload_n (pc := 48) cx dX8_copyFrom_48 rfl 0 rfl ?_
  refine G.aload_n (pc := 49) cx dX8_copyFrom_49 rfl 1 rfl ?_
  refine G.getV (pc := 50) cx dX8_copyFrom_50 (T := TX8) 6 wm_fl_X8_30 inlX8 rfl (by decide) (ob_t hA hO) rfl ?_
  refine G.putT (pc := 53) cx dX8_copyFrom_53 6 wm_fl_X8_30 (by decide) ?_
  refine G.aload_n (pc := 56) cx dX8_copyFrom_56 rfl 0 rfl ?_
  refine G.aload_n (pc := 57) cx dX8_copyFrom_57 rfl 1 rfl ?_
  refine G.getV (pc := 58) cx dX8_copyFrom_58 (T := TX8) 7 wm_fl_X8_33 inlX8 rfl (by decide) (ob_t hA hO) rfl ?_
  refine G.putT (pc := 61) cx dX8_copyFrom_61 7 wm_fl_X8_33 (by decide) ?_
  refine G.vret (pc := 64) cx rfl dX8_copyFrom_64 rfl ?_ rfl
  · refine congrArg (fun x => bw K b x V) ?_
    (try clear hin9); (try clear cx); exact cp_t z z2
set_option maxHeartbeats 4000000 in
set_option maxRecDepth 100000 in
theorem c_X9_copyNumbers (l : Launch) (K : KT) (sz : Nat) (V : VW) (a : Nat) (q : Nat) (n : Nat) (f1 : Zt) (g1 : Zt) (hn : n ≤ 16) (hne : a ≠ q) (ha : V a = some (.inl (K.2.1 0, n, .inl f1))) (hc : V q = some (.inl (K.2.1 0, n, .inl g1))) : Ct l K yX9_copyNumbers cX9_copyNumbers 3 none 0 [.ref a, .ref q] V sz none (vset V q (.inl (K.2.1 0, n, .inl (cpA n f1 g1)))) sz 0 0 := by
  refine Ct.ofG (by decide) (Nat.le_of_ble_eq_true rfl) ?_
  intro p9 e9 s9 m9 a9 b9 t9 c9 cx hin9
  refine G.lv0 (lv2 := [(0, .ref a), (1, .ref q)]) rfl ?_
  have hF : ∀ x : va_E, vset V q x a = some (.inl (K.2.1 0, n, .inl f1)) := fun x => (vset_ne V x hne).trans ha
  refine G.iconst (pc := 0) cx dX9_copyNumbers_0 (v := 0) (by decide) ?_
  refine G.istore_n (pc := 1) cx dX9_copyNumbers_1 rfl (by decide) rfl ?_
  have L2_1 : ∀ (f k2 : Nat), n - k2 < f → k2 ≤ n → G K p9 l e9 (rmL 0 0 0) s9 m9 a9 b9 t9 c9 (MQ b9 (QCt K none (vset V q (.inl (K.2.1 0, n, .inl (cpA n f1 g1)))) sz) a9 s9 0 0 (kA K)) 3 (vset V q (.inl (K.2.1 0, n, .inl (cpA k2 f1 g1)))) sz 0 0 2 [(0, .ref a), (1, .ref q), (2, .int (nI k2))] [] := by
    intro f
    induction f with
    | zero => intro k2 h9; omega
    | succ f ih2 =>
      intro k2 h92 h82
      refine G.iload_n (pc := 2) cx dX9_copyNumbers_2 rfl 2 rfl ?_
      refine G.aload_n (pc := 3) cx dX9_copyNumbers_3 rfl 0 rfl ?_
      refine G.alenV (pc := 4) cx dX9_copyNumbers_4 0 rfl (hF _) (v := nI n) rfl ?_
      refine G.icmp_geN (pc := 5) cx k2 n (by omega) (by omega) dX9_copyNumbers_5 (tgt := 26) (by decide) (fun cq5 => ?_) (fun cq5 => ?_)
      · skip
        have ex2 : k2 = n := by omega
        try rw [ex2]
        refine G.vret (pc := 26) cx rfl dX9_copyNumbers_26 rfl ?_ rfl
        · rfl
      · skip
        refine G.iload_n (pc := 8) cx dX9_copyNumbers_8 rfl 2 rfl ?_
        refine G.aload_n (pc := 9) cx dX9_copyNumbers_9 rfl 1 rfl ?_
        refine G.alenV (pc := 10) cx dX9_copyNumbers_10 0 rfl (vset_self _ _ _) (v := nI n) rfl ?_
        refine G.icmp_geN (pc := 11) cx k2 n (by omega) (by omega) dX9_copyNumbers_11 (tgt := 26) (by decide) (fun cq11 => ?_) (fun cq11 => ?_)
        · skip
          exact absurd cq11 (by omega)
        · skip
          refine G.aload_n (pc := 14) cx dX9_copyNumbers_14 rfl 1 rfl ?_
          refine G.iload_n (pc := 15) cx dX9_copyNumbers_15 rfl 2 rfl ?_
          refine G.aload_n (pc := 16) cx dX9_copyNumbers_16 rfl 0 rfl ?_
          refine G.iload_n (pc := 17) cx dX9_copyNumbers_17 rfl 2 rfl ?_
          refine G.ialdV (pc := 18) cx dX9_copyNumbers_18 (hF _) (j := k2) rfl (by omega) (by omega) rfl ?_
          refine G.iastV (pc := 19) cx dX9_copyNumbers_19 (vset_self _ _ _) (j := k2) rfl (by omega) (by omega) (vset_vset _ _ _) ?_
          refine G.iinc (pc := 20) cx dX9_copyNumbers_20 (v := nI (k2 + 1)) (k := 2) rfl (nI_add k2 1) (by decide) rfl ?_
          refine G.goto (pc := 23) cx dX9_copyNumbers_23 (tgt := 2) (by decide) ?_
          refine G.cast (V' := (vset V q (.inl (K.2.1 0, n, .inl (cpA (k2 + 1) f1 g1))))) (by rw [cpA_s]) ?_
          refine G.castL (lv' := [(0, .ref a), (1, .ref q), (2, .int (nI (k2 + 1)))]) [1, 2, 0] rfl ?_
          exact ih2 (k2 + 1) (by omega) (by omega)
  refine G.cast (V' := (vset V q (.inl (K.2.1 0, n, .inl (cpA 0 f1 g1))))) (by first | rfl | rw [cpA_0, vset_id hc]) ?_
  refine G.castL (lv' := [(0, .ref a), (1, .ref q), (2, .int 0)]) [1, 2, 0] rfl ?_
  refine G.lv0 (lv2 := [(0, .ref a), (1, .ref q), (2, .int (nI 0))]) (congrArg (fun q9 => ([(0, .ref a), (1, .ref q), (2, .int q9)] : List (Nat × Value))) (show (0 : Int32) = nI 0 from by first | rfl | rw [cpA_0, vset_id hc])) ?_
  exact L2_1 (n + 1) 0 (by omega) (by omega)
theorem c_X9_copyNumbers_e (l : Launch) (K : KT) (sz : Nat) (b : Nat) (z : Zt) (V : VW) (w b2 : Nat) (z2 : Zt) (hw : w < 3) (hA : apt b b2) (hO : bw K b2 z2 V = V) : Ct l K yX9_copyNumbers cX9_copyNumbers 3 none 0 [.ref (b2 + 27 + w), .ref (b + 27 + w)] (bw K b z V) sz none (bw K b (cpE z z2 w) V) sz 0 0 := by
  rw [← bwEr z z2 hw]
  exact c_X9_copyNumbers l K sz (bw K b z V) (b2 + 27 + w) (b + 27 + w) 8 (entF z2 w) (entF z w) (by omega) (by unfold apt at hA; omega) (ob_ea hA hO hw) (bw_ea hw)
theorem c_X9_copyNumbers_s (l : Launch) (K : KT) (sz : Nat) (b : Nat) (z : Zt) (V : VW) (b2 : Nat) (z2 : Zt) (hA : apt b b2) (hO : bw K b2 z2 V = V) : Ct l K yX9_copyNumbers cX9_copyNumbers 3 none 0 [.ref (b2 + 25), .ref (b + 25)] (bw K b z V) sz none (bw K b (cpR z z2 203 3) V) sz 0 0 := by
  rw [← bwSr z z2 (setF z2) (fun i hi => setF_at hi)]
  exact c_X9_copyNumbers l K sz (bw K b z V) (b2 + 25) (b + 25) 3 (setF z2) (setF z) (by omega) (by unfold apt at hA; omega) (ob_set hA hO) bw_set
set_option maxHeartbeats 4000000 in
set_option maxRecDepth 100000 in
theorem c_X1_copyFrom (l : Launch) (K : KT) (sz : Nat) (b : Nat) (z : Zt) (V : VW) (b2 : Nat) (z2 : Zt) (hA : apt b b2) (hO : bw K b2 z2 V = V) : Ct l K yX1_copyFrom cX1_copyFrom 2 none 1 [.ref (b + 26), .ref (b2 + 26)] (bw K b z V) sz none (bw K b (cpR z z2 206 25) V) sz 0 0 := by
  refine Ct.ofG (by decide) (Nat.le_of_ble_eq_true rfl) ?_
  intro p9 e9 s9 m9 a9 b9 t9 c9 cx hin9
  refine G.lv0 (lv2 := [(0, .ref (b + 26)), (1, .ref (b2 + 26))]) rfl ?_
  refine G.aload_n (pc := 0) cx dX1_copyFrom_0 rfl 1 rfl ?_
  refine G.getV (pc := 1) cx dX1_copyFrom_1 (T := TX1) 0 wm_fl_X1_9 inlX1 rfl (by decide) (ob_e hA hO) rfl ?_
  refine G.aload_n (pc := 4) cx dX1_copyFrom_4 rfl 0 rfl ?_
  refine G.getE (pc := 5) cx dX1_copyFrom_5 0 wm_fl_X1_9 (by decide) rfl ?_
  refine G.callSN0 (pc := 8) (rest := []) (st1 := []) cx (c_X9_copyNumbers_e l K sz b z V 0 b2 z2 (by omega) (by exact hA) (by exact hO)) ok_X9_copyNumbers dX1_copyFrom_8 (by decide +kernel)  rfl (Nat.le_of_ble_eq_true rfl) ⟨Nat.le_of_ble_eq_true rfl, Nat.le_of_ble_eq_true rfl⟩ rfl ?_
  refine G.aload_n (pc := 11) cx dX1_copyFrom_11 rfl 1 rfl ?_
  refine G.getV (pc := 12) cx dX1_copyFrom_12 (T := TX1) 1 wm_fl_X1_15 inlX1 rfl (by decide) (ob_e hA hO) rfl ?_
  refine G.aload_n (pc := 15) cx dX1_copyFrom_15 rfl 0 rfl ?_
  refine G.getE (pc := 16) cx dX1_copyFrom_16 1 wm_fl_X1_15 (by decide) rfl ?_
  refine G.callSN0 (pc := 19) (rest := []) (st1 := []) cx (c_X9_copyNumbers_e l K sz b (cpE z z2 0) V 1 b2 z2 (by omega) (by exact hA) (by exact hO)) ok_X9_copyNumbers dX1_copyFrom_19 (by decide +kernel)  rfl (Nat.le_of_ble_eq_true rfl) ⟨Nat.le_of_ble_eq_true rfl, Nat.le_of_ble_eq_true rfl⟩ rfl ?_
  refine G.aload_n (pc := 22) cx dX1_copyFrom_22 rfl 1 rfl ?_
  refine G.getV (pc := 23) cx dX1_copyFrom_23 (T := TX1) 2 wm_fl_X1_18 inlX1 rfl (by decide) (ob_e hA hO) rfl ?_
  refine G.aload_n (pc := 26) cx dX1_copyFrom_26 rfl 0 rfl ?_
  refine G.getE (pc := 27) cx dX1_copyFrom_27 2 wm_fl_X1_18 (by decide) rfl ?_
  refine G.callSN0 (pc := 30) (rest := []) (st1 := []) cx (c_X9_copyNumbers_e l K sz b (cpE (cpE z z2 0) z2 1) V 2 b2 z2 (by omega) (by exact hA) (by exact hO)) ok_X9_copyNumbers dX1_copyFrom_30 (by decide +kernel)  rfl (Nat.le_of_ble_eq_true rfl) ⟨Nat.le_of_ble_eq_true rfl, Nat.le_of_ble_eq_true rfl⟩ rfl ?_
  refine G.aload_n (pc := 33) cx dX1_copyFrom_33 rfl 0 rfl ?_
  refine G.aload_n (pc := 34) cx dX1_copyFrom_34 rfl 1 rfl ?_
  refine G.getV (pc := 35) cx dX1_copyFrom_35 (T := TX1) 3 wm_fl_X1_25 inlX1 rfl (by decide) (ob_e hA hO) rfl ?_
  refine G.putE (pc := 38) cx dX1_copyFrom_38 wm_fl_X1_25 ?_
  refine G.vret (pc := 41) cx rfl dX1_copyFrom_41 rfl ?_ rfl
  · refine congrArg (fun x => bw K b x V) ?_
    (try clear hin9); (try clear cx); exact cp_e z z2
set_option maxHeartbeats 4000000 in
set_option maxRecDepth 100000 in
theorem c_X0_copyFrom (l : Launch) (K : KT) (sz : Nat) (b : Nat) (z : Zt) (V : VW) (b2 : Nat) (z2 : Zt) (hA : apt b b2) (hO : bw K b2 z2 V = V) (hz : z2 191 = 0 ∨ z2 191 = 1) : Ct l K yX0_copyFrom cX0_copyFrom 3 none 2 [.ref b, .ref b2] (bw K b z V) sz none (bw K b z2 V) sz 0 0 := by
  refine Ct.ofG (by decide) (Nat.le_of_ble_eq_true rfl) ?_
  intro p9 e9 s9 m9 a9 b9 t9 c9 cx hin9
  refine G.lv0 (lv2 := [(0, .ref b), (1, .ref b2)]) rfl ?_
  refine G.iconst (pc := 0) cx dX0_copyFrom_0 (v := 0) (by decide) ?_
  refine G.istore_n (pc := 1) cx dX0_copyFrom_1 rfl (by decide) rfl ?_
  have L2_1 : ∀ (f k2 : Nat), 16 - k2 < f → k2 ≤ 16 → G K p9 l e9 (rmL 2 0 0) s9 m9 a9 b9 t9 c9 (MQ b9 (QCt K none (bw K b z2 V) sz) a9 s9 0 0 (kA K)) 3 (bw K b (cpR z z2 0 (10 * k2)) V) sz 0 0 2 [(0, .ref b), (1, .ref b2), (2, .int (nI k2))] [] := by
    intro f
    induction f with
    | zero => intro k2 h9; omega
    | succ f ih2 =>
      intro k2 h92 h82
      refine G.iload_n (pc := 2) cx dX0_copyFrom_2 rfl 2 rfl ?_
      refine G.aload_n (pc := 3) cx dX0_copyFrom_3 rfl 0 rfl ?_
      refine G.getB (pc := 4) cx dX0_copyFrom_4 0 wm_fl_X0_11 (by decide) rfl ?_
      refine G.alenV (pc := 7) cx dX0_copyFrom_7 1 rfl bw_crew (v := 16) rfl ?_
      refine G.icmp_geN (pc := 8) cx k2 16 (by omega) (by omega) dX0_copyFrom_8 (tgt := 41) (by decide) (fun cq8 => ?_) (fun cq8 => ?_)
      · skip
        have ex2 : k2 = 16 := by omega
        try rw [ex2]
        refine G.iconst (pc := 41) cx dX0_copyFrom_41 (v := 0) (by decide) ?_
        refine G.istore_n (pc := 42) cx dX0_copyFrom_42 rfl (by decide) rfl ?_
        have L43_2 : ∀ (f k43 : Nat), 6 - k43 < f → k43 ≤ 6 → G K p9 l e9 (rmL 2 0 0) s9 m9 a9 b9 t9 c9 (MQ b9 (QCt K none (bw K b z2 V) sz) a9 s9 0 0 (kA K)) 3 (bw K b (cpR z z2 0 (160 + 5 * k43)) V) sz 0 0 43 [(0, .ref b), (1, .ref b2), (2, .int (nI k43))] [] := by
          intro f
          induction f with
          | zero => intro k43 h9; omega
          | succ f ih43 =>
            intro k43 h943 h843
            refine G.iload_n (pc := 43) cx dX0_copyFrom_43 rfl 2 rfl ?_
            refine G.aload_n (pc := 44) cx dX0_copyFrom_44 rfl 0 rfl ?_
            refine G.getB (pc := 45) cx dX0_copyFrom_45 1 wm_fl_X0_20 (by decide) rfl ?_
            refine G.alenV (pc := 48) cx dX0_copyFrom_48 2 rfl bw_chest (v := 6) rfl ?_
            refine G.icmp_geN (pc := 49) cx k43 6 (by omega) (by omega) dX0_copyFrom_49 (tgt := 82) (by decide) (fun cq49 => ?_) (fun cq49 => ?_)
            · skip
              have ex43 : k43 = 6 := by omega
              try rw [ex43]
              refine G.aload_n (pc := 82) cx dX0_copyFrom_82 rfl 1 rfl ?_
              refine G.getV (pc := 83) cx dX0_copyFrom_83 (T := TX0) 2 wm_fl_X0_29 inlX0 rfl (by decide) (ob_b hA hO) rfl ?_
              refine G.aload_n (pc := 86) cx dX0_copyFrom_86 rfl 0 rfl ?_
              refine G.getB (pc := 87) cx dX0_copyFrom_87 2 wm_fl_X0_29 (by decide) rfl ?_
              refine G.callSN0 (pc := 90) (rest := []) (st1 := []) cx (c_X9_copyNumbers_s l K sz b (cpR z z2 0 (160 + 5 * 6)) V b2 z2 (by exact hA) (by exact hO)) ok_X9_copyNumbers dX0_copyFrom_90 (by decide +kernel)  rfl (Nat.le_of_ble_eq_true rfl) ⟨Nat.le_of_ble_eq_true rfl, Nat.le_of_ble_eq_true rfl⟩ rfl ?_
              refine G.aload_n (pc := 93) cx dX0_copyFrom_93 rfl 0 rfl ?_
              refine G.getB (pc := 94) cx dX0_copyFrom_94 3 wm_fl_X0_39 (by decide) rfl ?_
              refine G.aload_n (pc := 97) cx dX0_copyFrom_97 rfl 1 rfl ?_
              refine G.getV (pc := 98) cx dX0_copyFrom_98 (T := TX0) 3 wm_fl_X0_39 inlX0 rfl (by decide) (ob_b hA hO) rfl ?_
              refine G.callV0 (pc := 101) (rest := []) (st1 := []) cx (c_X1_copyFrom l K sz b (cpR (cpR z z2 0 (160 + 5 * 6)) z2 203 3) V b2 z2 (by exact hA) (by exact hO)) ok_X1_copyFrom dX0_copyFrom_101 wm_ml_X0_57 rfl bw_e rfl rfl (Nat.le_of_ble_eq_true rfl) ⟨Nat.le_of_ble_eq_true rfl, Nat.le_of_ble_eq_true rfl⟩ rfl ?_
              refine G.aload_n (pc := 104) cx dX0_copyFrom_104 rfl 0 rfl ?_
              refine G.getB (pc := 105) cx dX0_copyFrom_105 4 wm_fl_X0_46 (by decide) rfl ?_
              refine G.aload_n (pc := 108) cx dX0_copyFrom_108 rfl 1 rfl ?_
              refine G.getV (pc := 109) cx dX0_copyFrom_109 (T := TX0) 4 wm_fl_X0_46 inlX0 rfl (by decide) (ob_b hA hO) rfl ?_
              refine G.callV0 (pc := 112) (rest := []) (st1 := []) cx (c_X8_copyFrom l K sz b (cpR (cpR (cpR z z2 0 (160 + 5 * 6)) z2 203 3) z2 206 25) V b2 z2 (by exact hA) (by exact hO)) ok_X8_copyFrom dX0_copyFrom_112 wm_ml_X0_60 rfl bw_t rfl rfl (Nat.le_of_ble_eq_true rfl) ⟨Nat.le_of_ble_eq_true rfl, Nat.le_of_ble_eq_true rfl⟩ rfl ?_
              refine G.aload_n (pc := 115) cx dX0_copyFrom_115 rfl 0 rfl ?_
              refine G.aload_n (pc := 116) cx dX0_copyFrom_116 rfl 1 rfl ?_
              refine G.getV (pc := 117) cx dX0_copyFrom_117 (T := TX0) 5 wm_fl_X0_63 inlX0 rfl (by decide) (ob_b hA hO) rfl ?_
              refine G.putB5 (pc := 120) cx dX0_copyFrom_120 wm_fl_X0_63 ?_
              refine G.aload_n (pc := 123) cx dX0_copyFrom_123 rfl 0 rfl ?_
              refine G.aload_n (pc := 124) cx dX0_copyFrom_124 rfl 1 rfl ?_
              refine G.getV (pc := 125) cx dX0_copyFrom_125 (T := TX0) 6 wm_fl_X0_67 inlX0 rfl (by decide) (ob_b hA hO) rfl ?_
              refine G.putB6 (pc := 128) cx dX0_copyFrom_128 wm_fl_X0_67 ?_
              refine G.aload_n (pc := 131) cx dX0_copyFrom_131 rfl 0 rfl ?_
              refine G.aload_n (pc := 132) cx dX0_copyFrom_132 rfl 1 rfl ?_
              refine G.getV (pc := 133) cx dX0_copyFrom_133 (T := TX0) 7 wm_fl_X0_70 inlX0 rfl (by decide) (ob_b hA hO) rfl ?_
              refine G.putB7 (pc := 136) cx dX0_copyFrom_136 wm_fl_X0_70 ?_
              refine G.aload_n (pc := 139) cx dX0_copyFrom_139 rfl 0 rfl ?_
              refine G.aload_n (pc := 140) cx dX0_copyFrom_140 rfl 1 rfl ?_
              refine G.getV (pc := 141) cx dX0_copyFrom_141 (T := TX0) 8 wm_fl_X0_73 inlX0 rfl (by decide) (ob_b hA hO) rfl ?_
              refine G.putB8 (pc := 144) cx dX0_copyFrom_144 wm_fl_X0_73 ?_
              refine G.aload_n (pc := 147) cx dX0_copyFrom_147 rfl 0 rfl ?_
              refine G.aload_n (pc := 148) cx dX0_copyFrom_148 rfl 1 rfl ?_
              refine G.getV (pc := 149) cx dX0_copyFrom_149 (T := TX0) 9 wm_fl_X0_76 inlX0 rfl (by decide) (ob_b hA hO) rfl ?_
              refine G.putBz (pc := 152) cx dX0_copyFrom_152 wm_fl_X0_76 (bz_fit hz) (bz_nar hz) ?_
              refine G.vret (pc := 155) cx rfl dX0_copyFrom_155 rfl ?_ rfl
              · show _ = _
                (try clear L43_2); (try clear ih43); (try clear L2_1); (try clear ih2); (try clear hin9); (try clear cx); exact bw_eq (cp_all z z2)
            · skip
              refine G.iload_n (pc := 52) cx dX0_copyFrom_52 rfl 2 rfl ?_
              refine G.aload_n (pc := 53) cx dX0_copyFrom_53 rfl 1 rfl ?_
              refine G.getV (pc := 54) cx dX0_copyFrom_54 (T := TX0) 1 wm_fl_X0_20 inlX0 rfl (by decide) (ob_b hA hO) rfl ?_
              refine G.alenV (pc := 57) cx dX0_copyFrom_57 2 rfl (ob_chest hA hO) (v := 6) rfl ?_
              refine G.icmp_geN (pc := 58) cx k43 6 (by omega) (by omega) dX0_copyFrom_58 (tgt := 82) (by decide) (fun cq58 => ?_) (fun cq58 => ?_)
              · skip
                exact absurd cq58 (by omega)
              · skip
                refine G.aload_n (pc := 61) cx dX0_copyFrom_61 rfl 0 rfl ?_
                refine G.getB (pc := 62) cx dX0_copyFrom_62 1 wm_fl_X0_20 (by decide) rfl ?_
                refine G.iload_n (pc := 65) cx dX0_copyFrom_65 rfl 2 rfl ?_
                refine G.aaldV (pc := 66) cx dX0_copyFrom_66 2 rfl bw_chest (j := k43) rfl (by omega) (by decide) rfl ?_
                refine G.aload_n (pc := 67) cx dX0_copyFrom_67 rfl 1 rfl ?_
                refine G.getV (pc := 68) cx dX0_copyFrom_68 (T := TX0) 1 wm_fl_X0_20 inlX0 rfl (by decide) (ob_b hA hO) rfl ?_
                refine G.iload_n (pc := 71) cx dX0_copyFrom_71 rfl 2 rfl ?_
                refine G.aaldV (pc := 72) cx dX0_copyFrom_72 2 rfl (ob_chest hA hO) (j := k43) rfl (by omega) (by decide) rfl ?_
                refine G.callV0 (pc := 73) (rest := []) (st1 := []) cx (c_X3_copyFrom l K sz b (cpR z z2 0 (160 + 5 * k43)) V k43 b2 z2 (by omega) (by exact hA) (by exact hO)) ok_X3_copyFrom dX0_copyFrom_73 wm_ml_X0_54 rfl (bw_i (by omega)) rfl rfl (Nat.le_of_ble_eq_true rfl) ⟨Nat.le_of_ble_eq_true rfl, Nat.le_of_ble_eq_true rfl⟩ rfl ?_
                refine G.iinc (pc := 76) cx dX0_copyFrom_76 (v := nI (k43 + 1)) (k := 2) rfl (nI_add k43 1) (by decide) rfl ?_
                refine G.goto (pc := 79) cx dX0_copyFrom_79 (tgt := 43) (by decide) ?_
                refine G.cast (V' := (bw K b (cpR z z2 0 (160 + 5 * (k43 + 1))) V)) (congrArg (fun q9 => bw K b q9 V) (by exact ((congrArg (fun x => cpR (cpR z z2 0 (160 + 5 * k43)) z2 x 5) (Nat.zero_add (160 + 5 * k43)).symm).trans (cpR_cp z z2 0 (160 + 5 * k43) 5)).trans (congrArg (cpR z z2 0) (by omega)))) ?_
                refine G.castL (lv' := [(0, .ref b), (1, .ref b2), (2, .int (nI (k43 + 1)))]) [1, 2, 0] rfl ?_
                exact ih43 (k43 + 1) (by omega) (by omega)
        refine G.cast (V' := (bw K b (cpR z z2 0 (160 + 5 * 0)) V)) (congrArg (fun q9 => bw K b q9 V) (by rfl)) ?_
        refine G.castL (lv' := [(0, .ref b), (1, .ref b2), (2, .int 0)]) [1, 2, 0] rfl ?_
        refine G.lv0 (lv2 := [(0, .ref b), (1, .ref b2), (2, .int (nI 0))]) (congrArg (fun q9 => ([(0, .ref b), (1, .ref b2), (2, .int q9)] : List (Nat × Value))) (show (0 : Int32) = nI 0 from by rfl)) ?_
        exact L43_2 (6 + 1) 0 (by omega) (by omega)
      · skip
        refine G.iload_n (pc := 11) cx dX0_copyFrom_11 rfl 2 rfl ?_
        refine G.aload_n (pc := 12) cx dX0_copyFrom_12 rfl 1 rfl ?_
        refine G.getV (pc := 13) cx dX0_copyFrom_13 (T := TX0) 0 wm_fl_X0_11 inlX0 rfl (by decide) (ob_b hA hO) rfl ?_
        refine G.alenV (pc := 16) cx dX0_copyFrom_16 1 rfl (ob_crew hA hO) (v := 16) rfl ?_
        refine G.icmp_geN (pc := 17) cx k2 16 (by omega) (by omega) dX0_copyFrom_17 (tgt := 41) (by decide) (fun cq17 => ?_) (fun cq17 => ?_)
        · skip
          exact absurd cq17 (by omega)
        · skip
          refine G.aload_n (pc := 20) cx dX0_copyFrom_20 rfl 0 rfl ?_
          refine G.getB (pc := 21) cx dX0_copyFrom_21 0 wm_fl_X0_11 (by decide) rfl ?_
          refine G.iload_n (pc := 24) cx dX0_copyFrom_24 rfl 2 rfl ?_
          refine G.aaldV (pc := 25) cx dX0_copyFrom_25 1 rfl bw_crew (j := k2) rfl (by omega) (by decide) rfl ?_
          refine G.aload_n (pc := 26) cx dX0_copyFrom_26 rfl 1 rfl ?_
          refine G.getV (pc := 27) cx dX0_copyFrom_27 (T := TX0) 0 wm_fl_X0_11 inlX0 rfl (by decide) (ob_b hA hO) rfl ?_
          refine G.iload_n (pc := 30) cx dX0_copyFrom_30 rfl 2 rfl ?_
          refine G.aaldV (pc := 31) cx dX0_copyFrom_31 1 rfl (ob_crew hA hO) (j := k2) rfl (by omega) (by decide) rfl ?_
          refine G.callV0 (pc := 32) (rest := []) (st1 := []) cx (c_X6_copyFrom l K sz b (cpR z z2 0 (10 * k2)) V k2 b2 z2 (by omega) (by exact hA) (by exact hO)) ok_X6_copyFrom dX0_copyFrom_32 wm_ml_X0_50 rfl (bw_s (by omega)) rfl rfl (Nat.le_of_ble_eq_true rfl) ⟨Nat.le_of_ble_eq_true rfl, Nat.le_of_ble_eq_true rfl⟩ rfl ?_
          refine G.iinc (pc := 35) cx dX0_copyFrom_35 (v := nI (k2 + 1)) (k := 2) rfl (nI_add k2 1) (by decide) rfl ?_
          refine G.goto (pc := 38) cx dX0_copyFrom_38 (tgt := 2) (by decide) ?_
          refine G.cast (V' := (bw K b (cpR z z2 0 (10 * (k2 + 1))) V)) (congrArg (fun q9 => bw K b q9 V) (by exact ((congrArg (fun x => cpR (cpR z z2 0 (10 * k2)) z2 x 10) (Nat.zero_add (10 * k2)).symm).trans (cpR_cp z z2 0 (10 * k2) 10)).trans (congrArg (cpR z z2 0) (by omega)))) ?_
          refine G.castL (lv' := [(0, .ref b), (1, .ref b2), (2, .int (nI (k2 + 1)))]) [1, 2, 0] rfl ?_
          exact ih2 (k2 + 1) (by omega) (by omega)
  refine G.cast (V' := (bw K b (cpR z z2 0 (10 * 0)) V)) (congrArg (fun q9 => bw K b q9 V) (by first | rfl | exact (cpR_0 z z2 0).symm)) ?_
  refine G.castL (lv' := [(0, .ref b), (1, .ref b2), (2, .int 0)]) [1, 2, 0] rfl ?_
  refine G.lv0 (lv2 := [(0, .ref b), (1, .ref b2), (2, .int (nI 0))]) (congrArg (fun q9 => ([(0, .ref b), (1, .ref b2), (2, .int q9)] : List (Nat × Value))) (show (0 : Int32) = nI 0 from by first | rfl | exact (cpR_0 z z2 0).symm)) ?_
  exact L2_1 (16 + 1) 0 (by omega) (by omega)
