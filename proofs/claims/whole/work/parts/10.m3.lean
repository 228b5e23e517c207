set_option maxHeartbeats 4000000 in
set_option maxRecDepth 100000 in
theorem c_X10_noLeave (l : Launch) (K : KT) (sz : Nat) (o : Nat) (z : Zt) (r : Rt) (V : VW) (w : Int32) (N : Nat) (hN : z 194 = nI N) (h16 : N ≤ 16) : Ct l K yX10_noLeave cX10_noLeave 2 (some .int) 2 [.ref o, .int w] (mw K o z r V) sz (some (.int (zNoLeave z N w))) (mw K o z r V) sz 0 0 := by
  refine Ct.ofG (by decide) (Nat.le_of_ble_eq_true rfl) ?_
  intro p9 e9 s9 m9 a9 b9 t9 c9 cx hin9
  refine G.lv0 (lv2 := [(0, .ref o), (1, .int w)]) rfl ?_
  have hB := zAbo_le z w N
  refine G.iload_n (pc := 0) cx dX10_noLeave_0 rfl 1 rfl ?_
  refine G.iconst (pc := 1) cx dX10_noLeave_1 (v := 0) (by decide) ?_
  refine G.iconst (pc := 2) cx dX10_noLeave_2 (v := 1) (by decide) ?_
  refine G.callS0 (pc := 3) (rest := []) (st1 := [.int (b2 (0 ≤ w ∧ w ≤ 1))]) cx (c_X10_in l K sz w 0 1 (mw K o z r V)) ok_X10_in dX10_noLeave_3 wm_ml_X10_25 rfl rfl (Nat.le_of_ble_eq_true rfl) ⟨Nat.le_of_ble_eq_true rfl, Nat.le_of_ble_eq_true rfl⟩ rfl ?_
  refine G.if_neB (pc := 6) cx dX10_noLeave_6 (tgt := 12) (by decide) (fun cq6 => ?_) (fun cq6 => ?_)
  · skip
    refine G.aload_n (pc := 12) cx dX10_noLeave_12 rfl 0 rfl ?_
    refine G.callV0 (pc := 13) (rest := []) (st1 := [.int (b2 (z 191 = 1))]) cx (c_X10_isAtSea l K sz o z r V) ok_X10_isAtSea dX10_noLeave_13 wm_ml_X10_65 rfl mw_m rfl rfl (Nat.le_of_ble_eq_true rfl) ⟨Nat.le_of_ble_eq_true rfl, Nat.le_of_ble_eq_true rfl⟩ rfl ?_
    refine G.if_neB (pc := 16) cx dX10_noLeave_16 (tgt := 35) (by decide) (fun cq16 => ?_) (fun cq16 => ?_)
    · skip
      refine G.ldc (pc := 35) cx dX10_noLeave_35 (v := (-1000002)) wm_ct_X10_37 ?_
      refine G.goto (pc := 37) cx dX10_noLeave_37 (tgt := 41) (by decide) ?_
      refine G.iret (pc := 41) cx rfl dX10_noLeave_41 ?_ ?_ rfl
      · refine congrArg (fun x => some (Value.int x)) ?_
        (try clear hin9); (try clear cx); first | rfl | (refine b2_t ?_; grind) | (refine b2_f ?_; grind) | (simp [*, zNoLeave]; done) | (simp_all [zNoLeave]; done) | grind [zNoLeave]
      · rfl
    · skip
      refine G.aload_n (pc := 19) cx dX10_noLeave_19 rfl 0 rfl ?_
      refine G.iconst (pc := 20) cx dX10_noLeave_20 (v := 1) (by decide) ?_
      refine G.callV0 (pc := 21) (rest := []) (st1 := [.int (zSet z 1 N)]) cx (c_X10_inPlace l K sz o z r V 1 N (by assumption) (by omega)) ok_X10_inPlace dX10_noLeave_21 wm_ml_X10_135 rfl mw_m rfl rfl (Nat.le_of_ble_eq_true rfl) ⟨Nat.le_of_ble_eq_true rfl, Nat.le_of_ble_eq_true rfl⟩ rfl ?_
      refine G.if_ne (pc := 24) cx dX10_noLeave_24 (tgt := 35) (by decide) (fun cq24 => ?_) (fun cq24 => ?_)
      · skip
        refine G.ldc (pc := 35) cx dX10_noLeave_35 (v := (-1000002)) wm_ct_X10_37 ?_
        refine G.goto (pc := 37) cx dX10_noLeave_37 (tgt := 41) (by decide) ?_
        refine G.iret (pc := 41) cx rfl dX10_noLeave_41 ?_ ?_ rfl
        · refine congrArg (fun x => some (Value.int x)) ?_
          (try clear hin9); (try clear cx); first | rfl | (refine b2_t ?_; grind) | (refine b2_f ?_; grind) | (simp [*, zNoLeave]; done) | (simp_all [zNoLeave]; done) | grind [zNoLeave]
        · rfl
      · skip
        refine G.aload_n (pc := 27) cx dX10_noLeave_27 rfl 0 rfl ?_
        refine G.iload_n (pc := 28) cx dX10_noLeave_28 rfl 1 rfl ?_
        refine G.callV0 (pc := 29) (rest := []) (st1 := [.int (nI (zAbo z w N))]) cx (c_X10_aboardOf l K sz o z r V w N (by assumption) (by omega)) ok_X10_aboardOf dX10_noLeave_29 wm_ml_X10_138 rfl mw_m rfl rfl (Nat.le_of_ble_eq_true rfl) ⟨Nat.le_of_ble_eq_true rfl, Nat.le_of_ble_eq_true rfl⟩ rfl ?_
        refine G.if_neN (pc := 32) cx (zAbo z w N) (by omega) dX10_noLeave_32 (tgt := 40) (by decide) (fun cq32 => ?_) (fun cq32 => ?_)
        · skip
          refine G.iconst (pc := 40) cx dX10_noLeave_40 (v := 0) (by decide) ?_
          refine G.iret (pc := 41) cx rfl dX10_noLeave_41 ?_ ?_ rfl
          · refine congrArg (fun x => some (Value.int x)) ?_
            (try clear hin9); (try clear cx); first | rfl | (refine b2_t ?_; grind) | (refine b2_f ?_; grind) | (simp [*, zNoLeave]; done) | (simp_all [zNoLeave]; done) | grind [zNoLeave]
          · rfl
        · skip
          refine G.ldc (pc := 35) cx dX10_noLeave_35 (v := (-1000002)) wm_ct_X10_37 ?_
          refine G.goto (pc := 37) cx dX10_noLeave_37 (tgt := 41) (by decide) ?_
          refine G.iret (pc := 41) cx rfl dX10_noLeave_41 ?_ ?_ rfl
          · refine congrArg (fun x => some (Value.int x)) ?_
            (try clear hin9); (try clear cx); first | rfl | (refine b2_t ?_; grind) | (refine b2_f ?_; grind) | (simp [*, zNoLeave]; done) | (simp_all [zNoLeave]; done) | grind [zNoLeave]
          · rfl
  · skip
    refine G.ldc (pc := 9) cx dX10_noLeave_9 (v := (-1000001)) wm_ct_X10_64 ?_
    refine G.iret (pc := 11) cx rfl dX10_noLeave_11 ?_ ?_ rfl
    · refine congrArg (fun x => some (Value.int x)) ?_
      (try clear hin9); (try clear cx); first | rfl | (refine b2_t ?_; grind) | (refine b2_f ?_; grind) | (simp [*, zNoLeave]; done) | (simp_all [zNoLeave]; done) | grind [zNoLeave]
    · rfl
set_option maxHeartbeats 4000000 in
set_option maxRecDepth 100000 in
theorem c_X10_doLeave (l : Launch) (K : KT) (sz : Nat) (o : Nat) (z : Zt) (r : Rt) (V : VW) (w : Int32) (N : Nat) (hN : z 194 = nI N) (h16 : N ≤ 16) : Ct l K yX10_doLeave cX10_doLeave 4 (some .int) 2 [.ref o, .int w] (mw K o z r V) sz (some (.int (nI (zAbo z w N)))) (mw K o (zLeaveTo z w N) r V) sz 0 0 := by
  refine Ct.ofG (by decide) (Nat.le_of_ble_eq_true rfl) ?_
  intro p9 e9 s9 m9 a9 b9 t9 c9 cx hin9
  refine G.lv0 (lv2 := [(0, .ref o), (1, .int w)]) rfl ?_
  have hF : ∀ k, k ≤ N → zLeaveTo z w k 194 = nI N := fun k hk => (zLeaveTo_o z w k (fun q hq => by omega)).trans hN
  refine G.aload_n (pc := 0) cx dX10_doLeave_0 rfl 0 rfl ?_
  refine G.iload_n (pc := 1) cx dX10_doLeave_1 rfl 1 rfl ?_
  refine G.callV0 (pc := 2) (rest := []) (st1 := [.int (nI (zAbo z w N))]) cx (c_X10_aboardOf l K sz o z r V w N (by assumption) (by omega)) ok_X10_aboardOf dX10_doLeave_2 wm_ml_X10_138 rfl mw_m rfl rfl (Nat.le_of_ble_eq_true rfl) ⟨Nat.le_of_ble_eq_true rfl, Nat.le_of_ble_eq_true rfl⟩ rfl ?_
  refine G.istore_n (pc := 5) cx dX10_doLeave_5 rfl (by decide) rfl ?_
  refine G.iconst (pc := 6) cx dX10_doLeave_6 (v := 0) (by decide) ?_
  refine G.istore_n (pc := 7) cx dX10_doLeave_7 rfl (by decide) rfl ?_
  have L8_1 : ∀ (f k8 : Nat), N - k8 < f → k8 ≤ N → G K p9 l e9 (rmL 2 0 0) s9 m9 a9 b9 t9 c9 (MQ b9 (QCt K (some (.int (nI (zAbo z w N)))) (mw K o (zLeaveTo z w N) r V) sz) a9 s9 0 0 (kA K)) 4 (mw K o (zLeaveTo z w k8) r V) sz 0 0 8 [(2, .int (nI (zAbo z w N))), (0, .ref o), (1, .int w), (3, .int (nI k8))] [] := by
    intro f
    induction f with
    | zero => intro k8 h9; omega
    | succ f ih8 =>
      intro k8 h98 h88
      refine G.iload_n (pc := 8) cx dX10_doLeave_8 rfl 3 rfl ?_
      refine G.aload_n (pc := 9) cx dX10_doLeave_9 rfl 1 rfl ?_
      refine G.getM (pc := 10) cx dX10_doLeave_10 0 wm_fl_X10_7 (by decide) rfl ?_
      refine G.sipush (pc := 13) cx dX10_doLeave_13 (v := 194) (by decide) ?_
      refine G.ialdV (pc := 16) cx dX10_doLeave_16 mw_z (j := 194) rfl (by omega) (by decide) ((cut_at (by omega)).trans (hF _ (by omega))) ?_
      refine G.icmp_geN (pc := 17) cx k8 N (by omega) (by omega) dX10_doLeave_17 (tgt := 52) (by decide) (fun cq17 => ?_) (fun cq17 => ?_)
      · skip
        have ex8 : k8 = N := by omega
        try rw [ex8]
        refine G.iload_n (pc := 52) cx dX10_doLeave_52 rfl 0 rfl ?_
        refine G.iret (pc := 53) cx rfl dX10_doLeave_53 ?_ ?_ rfl
        · rfl
        · rfl
      · skip
        refine G.aload_n (pc := 20) cx dX10_doLeave_20 rfl 1 rfl ?_
        refine G.iload_n (pc := 21) cx dX10_doLeave_21 rfl 3 rfl ?_
        refine G.iconst (pc := 22) cx dX10_doLeave_22 (v := 1) (by decide) ?_
        refine G.callV0 (pc := 23) (rest := []) (st1 := [.int ((zLeaveTo z w k8) (10 * k8 + 1))]) cx (c_X10_of l K sz o (zLeaveTo z w k8) r V k8 1 (by omega)) ok_X10_of dX10_doLeave_23 wm_ml_X10_29 rfl mw_m rfl rfl (Nat.le_of_ble_eq_true rfl) ⟨Nat.le_of_ble_eq_true rfl, Nat.le_of_ble_eq_true rfl⟩ rfl ?_
        refine G.iload_n (pc := 26) cx dX10_doLeave_26 rfl 2 rfl ?_
        refine G.icmp_ne (pc := 27) cx dX10_doLeave_27 (tgt := 46) (by decide) (fun cq27 => ?_) (fun cq27 => ?_)
        · skip
          refine G.iinc (pc := 46) cx dX10_doLeave_46 (v := nI (k8 + 1)) (k := 3) rfl (nI_add k8 1) (by decide) rfl ?_
          refine G.goto (pc := 49) cx dX10_doLeave_49 (tgt := 8) (by decide) ?_
          refine G.cast (V' := (mw K o (zLeaveTo z w (k8 + 1)) r V)) (congrArg (fun q9 => mw K o q9 r V) (by simp [zLeaveTo, *])) ?_
          refine G.castL (lv' := [(2, .int (nI (zAbo z w N))), (0, .ref o), (1, .int w), (3, .int (nI (k8 + 1)))]) [1, 2, 3, 0] rfl ?_
          exact ih8 (k8 + 1) (by omega) (by omega)
        · skip
          refine G.aload_n (pc := 30) cx dX10_doLeave_30 rfl 1 rfl ?_
          refine G.iload_n (pc := 31) cx dX10_doLeave_31 rfl 3 rfl ?_
          refine G.iconst (pc := 32) cx dX10_doLeave_32 (v := 2) (by decide) ?_
          refine G.callV0 (pc := 33) (rest := []) (st1 := [.int ((zLeaveTo z w k8) (10 * k8 + 2))]) cx (c_X10_of l K sz o (zLeaveTo z w k8) r V k8 2 (by omega)) ok_X10_of dX10_doLeave_33 wm_ml_X10_29 rfl mw_m rfl rfl (Nat.le_of_ble_eq_true rfl) ⟨Nat.le_of_ble_eq_true rfl, Nat.le_of_ble_eq_true rfl⟩ rfl ?_
          refine G.if_ne (pc := 36) cx dX10_doLeave_36 (tgt := 46) (by decide) (fun cq36 => ?_) (fun cq36 => ?_)
          · skip
            refine G.iinc (pc := 46) cx dX10_doLeave_46 (v := nI (k8 + 1)) (k := 3) rfl (nI_add k8 1) (by decide) rfl ?_
            refine G.goto (pc := 49) cx dX10_doLeave_49 (tgt := 8) (by decide) ?_
            refine G.cast (V' := (mw K o (zLeaveTo z w (k8 + 1)) r V)) (congrArg (fun q9 => mw K o q9 r V) (by simp [zLeaveTo, *])) ?_
            refine G.castL (lv' := [(2, .int (nI (zAbo z w N))), (0, .ref o), (1, .int w), (3, .int (nI (k8 + 1)))]) [1, 2, 3, 0] rfl ?_
            exact ih8 (k8 + 1) (by omega) (by omega)
          · skip
            refine G.aload_n (pc := 39) cx dX10_doLeave_39 rfl 1 rfl ?_
            refine G.iload_n (pc := 40) cx dX10_doLeave_40 rfl 3 rfl ?_
            refine G.iconst (pc := 41) cx dX10_doLeave_41 (v := 2) (by decide) ?_
            refine G.iconst (pc := 42) cx dX10_doLeave_42 (v := 1) (by decide) ?_
            refine G.callV0 (pc := 43) (rest := []) (st1 := []) cx (c_X10_put l K sz o (zLeaveTo z w k8) r V k8 2 1 (by omega)) ok_X10_put dX10_doLeave_43 wm_ml_X10_53 rfl mw_m rfl rfl (Nat.le_of_ble_eq_true rfl) ⟨Nat.le_of_ble_eq_true rfl, Nat.le_of_ble_eq_true rfl⟩ rfl ?_
            refine G.iinc (pc := 46) cx dX10_doLeave_46 (v := nI (k8 + 1)) (k := 3) rfl (nI_add k8 1) (by decide) rfl ?_
            refine G.goto (pc := 49) cx dX10_doLeave_49 (tgt := 8) (by decide) ?_
            refine G.cast (V' := (mw K o (zLeaveTo z w (k8 + 1)) r V)) (congrArg (fun q9 => mw K o q9 r V) (by simp [zLeaveTo, *])) ?_
            refine G.castL (lv' := [(2, .int (nI (zAbo z w N))), (0, .ref o), (1, .int w), (3, .int (nI (k8 + 1)))]) [1, 2, 3, 0] rfl ?_
            exact ih8 (k8 + 1) (by omega) (by omega)
  refine G.cast (V' := (mw K o (zLeaveTo z w 0) r V)) (congrArg (fun q9 => mw K o q9 r V) (by rfl)) ?_
  refine G.castL (lv' := [(2, .int (nI (zAbo z w N))), (0, .ref o), (1, .int w), (3, .int 0)]) [1, 2, 3, 0] rfl ?_
  refine G.lv0 (lv2 := [(2, .int (nI (zAbo z w N))), (0, .ref o), (1, .int w), (3, .int (nI 0))]) (congrArg (fun q9 => ([(2, .int (nI (zAbo z w N))), (0, .ref o), (1, .int w), (3, .int q9)] : List (Nat × Value))) (show (0 : Int32) = nI 0 from by rfl)) ?_
  exact L8_1 (N + 1) 0 (by omega) (by omega)
set_option maxHeartbeats 4000000 in
set_option maxRecDepth 100000 in
theorem c_X10_leave (l : Launch) (K : KT) (sz : Nat) (o : Nat) (z : Zt) (r : Rt) (V : VW) (w : Int32) (N : Nat) (n : Nat) (hN : z 194 = nI N) (h16 : N ≤ 16) (hn : r.2.2.2.2 0 = nI n) (h4 : n ≤ 4) : Ct l K yX10_leave cX10_leave 3 (some .int) 3 [.ref o, .int w] (mw K o z r V) sz (some (.int (if zNoLeave z N w < 0 then zNoLeave z N w else nI (zAbo z w N)))) (mw K o (if zNoLeave z N w < 0 then z else zLeaveTo z w N) (if zNoLeave z N w < 0 then r else rRec r n z) V) sz 0 0 := by
  refine Ct.ofG (by decide) (Nat.le_of_ble_eq_true rfl) ?_
  intro p9 e9 s9 m9 a9 b9 t9 c9 cx hin9
  refine G.lv0 (lv2 := [(0, .ref o), (1, .int w)]) rfl ?_
  refine G.aload_n (pc := 0) cx dX10_leave_0 rfl 0 rfl ?_
  refine G.iload_n (pc := 1) cx dX10_leave_1 rfl 1 rfl ?_
  refine G.callV0 (pc := 2) (rest := []) (st1 := [.int (zNoLeave z N w)]) cx (c_X10_noLeave l K sz o z r V w N (by assumption) (by omega)) ok_X10_noLeave dX10_leave_2 wm_ml_X10_141 rfl mw_m rfl rfl (Nat.le_of_ble_eq_true rfl) ⟨Nat.le_of_ble_eq_true rfl, Nat.le_of_ble_eq_true rfl⟩ rfl ?_
  refine G.istore_n (pc := 5) cx dX10_leave_5 rfl (by decide) rfl ?_
  refine G.iload_n (pc := 6) cx dX10_leave_6 rfl 0 rfl ?_
  refine G.if_ge (pc := 7) cx dX10_leave_7 (tgt := 12) (by decide) (fun cq7 => ?_) (fun cq7 => ?_)
  · skip
    refine G.aload_n (pc := 12) cx dX10_leave_12 rfl 1 rfl ?_
    refine G.aload_n (pc := 13) cx dX10_leave_13 rfl 1 rfl ?_
    refine G.getM (pc := 14) cx dX10_leave_14 0 wm_fl_X10_7 (by decide) rfl ?_
    refine G.callV0 (pc := 17) (rest := []) (st1 := []) cx (c_X10_record l K sz o z r V n (by first | assumption | simp [*]) (by omega)) ok_X10_record dX10_leave_17 wm_ml_X10_76 rfl mw_m rfl rfl (Nat.le_of_ble_eq_true rfl) ⟨Nat.le_of_ble_eq_true rfl, Nat.le_of_ble_eq_true rfl⟩ rfl ?_
    refine G.aload_n (pc := 20) cx dX10_leave_20 rfl 1 rfl ?_
    refine G.iload_n (pc := 21) cx dX10_leave_21 rfl 2 rfl ?_
    refine G.callV0 (pc := 22) (rest := []) (st1 := [.int (nI (zAbo z w N))]) cx (c_X10_doLeave l K sz o z (rRec r n z) V w N (by assumption) (by omega)) ok_X10_doLeave dX10_leave_22 wm_ml_X10_144 rfl mw_m rfl rfl (Nat.le_of_ble_eq_true rfl) ⟨Nat.le_of_ble_eq_true rfl, Nat.le_of_ble_eq_true rfl⟩ rfl ?_
    refine G.iret (pc := 25) cx rfl dX10_leave_25 ?_ ?_ rfl
    · refine congrArg (fun x => some (Value.int x)) ?_
      (try clear hin9); (try clear cx); first | (rw [if_pos (Int32.not_le.mp cq7)]; done) | (rw [if_neg (Int32.not_lt.mpr cq7)]; done) | (rw [if_neg (Int32.not_lt.mpr cq7)]; rfl)
    · show _ = _
      (try clear hin9); (try clear cx); first | (rw [if_pos (Int32.not_le.mp cq7), if_pos (Int32.not_le.mp cq7)]; done) | (rw [if_neg (Int32.not_lt.mpr cq7), if_neg (Int32.not_lt.mpr cq7)]; done) | (rw [if_neg (Int32.not_lt.mpr cq7), if_neg (Int32.not_lt.mpr cq7)]; rfl)
  · skip
    refine G.iload_n (pc := 10) cx dX10_leave_10 rfl 0 rfl ?_
    refine G.iret (pc := 11) cx rfl dX10_leave_11 ?_ ?_ rfl
    · refine congrArg (fun x => some (Value.int x)) ?_
      (try clear hin9); (try clear cx); first | (rw [if_pos (Int32.not_le.mp cq7)]; done) | (rw [if_neg (Int32.not_lt.mpr cq7)]; done) | (rw [if_neg (Int32.not_lt.mpr cq7)]; rfl)
    · show _ = _
      (try clear hin9); (try clear cx); first | (rw [if_pos (Int32.not_le.mp cq7), if_pos (Int32.not_le.mp cq7)]; done) | (rw [if_neg (Int32.not_lt.mpr cq7), if_neg (Int32.not_lt.mpr cq7)]; done) | (rw [if_neg (Int32.not_lt.mpr cq7), if_neg (Int32.not_lt.mpr cq7)]; rfl)
set_option maxHeartbeats 4000000 in
set_option maxRecDepth 100000 in
theorem c_X10_noBack (l : Launch) (K : KT) (sz : Nat) (o : Nat) (z : Zt) (r : Rt) (V : VW) (a : Int32) (t : Int32) (N : Nat) (hN : z 194 = nI N) (h16 : N ≤ 16) : Ct l K yX10_noBack cX10_noBack 3 (some .int) 3 [.ref o, .int a, .int t] (mw K o z r V) sz (some (.int (zNoBack z a t))) (mw K o z r V) sz 0 0 := by
  refine Ct.ofG (by decide) (Nat.le_of_ble_eq_true rfl) ?_
  intro p9 e9 s9 m9 a9 b9 t9 c9 cx hin9
  refine G.lv0 (lv2 := [(0, .ref o), (1, .int a), (2, .int t)]) rfl ?_
  refine G.aload_n (pc := 0) cx dX10_noBack_0 rfl 0 rfl ?_
  refine G.iload_n (pc := 1) cx dX10_noBack_1 rfl 1 rfl ?_
  refine G.callV0 (pc := 2) (rest := []) (st1 := [.int (b2 (0 ≤ a ∧ a ≤ z 194 - 1))]) cx (c_X10_isSailor l K sz o z r V a) ok_X10_isSailor dX10_noBack_2 wm_ml_X10_98 rfl mw_m rfl rfl (Nat.le_of_ble_eq_true rfl) ⟨Nat.le_of_ble_eq_true rfl, Nat.le_of_ble_eq_true rfl⟩ rfl ?_
  refine G.if_eqB (pc := 5) cx dX10_noBack_5 (tgt := 18) (by decide) (fun cq5 => ?_) (fun cq5 => ?_)
  · skip
    refine G.ldc (pc := 18) cx dX10_noBack_18 (v := (-1000001)) wm_ct_X10_64 ?_
    refine G.iret (pc := 20) cx rfl dX10_noBack_20 ?_ ?_ rfl
    · refine congrArg (fun x => some (Value.int x)) ?_
      (try clear hin9); (try clear cx); first | rfl | (refine b2_t ?_; grind) | (refine b2_f ?_; grind) | (simp [*, zNoBack, Int32.not_lt, Int32.not_le]; done) | (simp_all [zNoBack, Int32.not_lt, Int32.not_le]; done) | grind [zNoBack, Int32.not_lt, Int32.not_le]
    · rfl
  · skip
    obtain ⟨k, hk, rfl⟩ := sail_of hN h16 cq5
    have tk : (nI k).toNatClampNeg = k := nI_clamp (by omega)
    refine G.iload_n (pc := 8) cx dX10_noBack_8 rfl 2 rfl ?_
    refine G.iconst (pc := 9) cx dX10_noBack_9 (v := 0) (by decide) ?_
    refine G.bipush (pc := 10) cx dX10_noBack_10 (v := 99) (by decide) ?_
    refine G.callS0 (pc := 12) (rest := []) (st1 := [.int (b2 (0 ≤ t ∧ t ≤ 99))]) cx (c_X10_in l K sz t 0 99 (mw K o z r V)) ok_X10_in dX10_noBack_12 wm_ml_X10_25 rfl rfl (Nat.le_of_ble_eq_true rfl) ⟨Nat.le_of_ble_eq_true rfl, Nat.le_of_ble_eq_true rfl⟩ rfl ?_
    refine G.if_neB (pc := 15) cx dX10_noBack_15 (tgt := 21) (by decide) (fun cq15 => ?_) (fun cq15 => ?_)
    · skip
      refine G.aload_n (pc := 21) cx dX10_noBack_21 rfl 0 rfl ?_
      refine G.iload_n (pc := 22) cx dX10_noBack_22 rfl 1 rfl ?_
      refine G.iconst (pc := 23) cx dX10_noBack_23 (v := 2) (by decide) ?_
      refine G.callV0 (pc := 24) (rest := []) (st1 := [.int (z (10 * k + 2))]) cx (c_X10_of l K sz o z r V k 2 (by omega)) ok_X10_of dX10_noBack_24 wm_ml_X10_29 rfl mw_m rfl rfl (Nat.le_of_ble_eq_true rfl) ⟨Nat.le_of_ble_eq_true rfl, Nat.le_of_ble_eq_true rfl⟩ rfl ?_
      refine G.iconst (pc := 27) cx dX10_noBack_27 (v := 1) (by decide) ?_
      refine G.icmp_ne (pc := 28) cx dX10_noBack_28 (tgt := 53) (by decide) (fun cq28 => ?_) (fun cq28 => ?_)
      · skip
        refine G.ldc (pc := 53) cx dX10_noBack_53 (v := (-1000002)) wm_ct_X10_37 ?_
        refine G.goto (pc := 55) cx dX10_noBack_55 (tgt := 59) (by decide) ?_
        refine G.iret (pc := 59) cx rfl dX10_noBack_59 ?_ ?_ rfl
        · refine congrArg (fun x => some (Value.int x)) ?_
          (try clear hin9); (try clear cx); first | rfl | (refine b2_t ?_; grind) | (refine b2_f ?_; grind) | (simp [*, zNoBack, Int32.not_lt, Int32.not_le]; done) | (simp_all [zNoBack, Int32.not_lt, Int32.not_le]; done) | grind [zNoBack, Int32.not_lt, Int32.not_le]
        · rfl
      · skip
        refine G.aload_n (pc := 31) cx dX10_noBack_31 rfl 0 rfl ?_
        refine G.iload_n (pc := 32) cx dX10_noBack_32 rfl 1 rfl ?_
        refine G.callV0 (pc := 33) (rest := []) (st1 := [.int (zBal z k)]) cx (c_X10_balance l K sz o z r V k (by omega)) ok_X10_balance dX10_noBack_33 wm_ml_X10_95 rfl mw_m rfl rfl (Nat.le_of_ble_eq_true rfl) ⟨Nat.le_of_ble_eq_true rfl, Nat.le_of_ble_eq_true rfl⟩ rfl ?_
        refine G.iload_n (pc := 36) cx dX10_noBack_36 rfl 2 rfl ?_
        refine G.aload_n (pc := 37) cx dX10_noBack_37 rfl 0 rfl ?_
        refine G.getM (pc := 38) cx dX10_noBack_38 0 wm_fl_X10_7 (by decide) rfl ?_
        refine G.sipush (pc := 41) cx dX10_noBack_41 (v := 205) (by decide) ?_
        refine G.ialdV (pc := 44) cx dX10_noBack_44 mw_z (j := 205) rfl (by omega) (by decide) (cut_at (by omega)) ?_
        refine G.imul (pc := 45) cx dX10_noBack_45 ?_
        refine G.isub (pc := 46) cx dX10_noBack_46 ?_
        refine G.sipush (pc := 47) cx dX10_noBack_47 (v := (-4000)) (by decide) ?_
        refine G.icmp_ge (pc := 50) cx dX10_noBack_50 (tgt := 58) (by decide) (fun cq50 => ?_) (fun cq50 => ?_)
        · skip
          refine G.iconst (pc := 58) cx dX10_noBack_58 (v := 0) (by decide) ?_
          refine G.iret (pc := 59) cx rfl dX10_noBack_59 ?_ ?_ rfl
          · refine congrArg (fun x => some (Value.int x)) ?_
            (try clear hin9); (try clear cx); first | rfl | (refine b2_t ?_; grind) | (refine b2_f ?_; grind) | (simp [*, zNoBack, Int32.not_lt, Int32.not_le]; done) | (simp_all [zNoBack, Int32.not_lt, Int32.not_le]; done) | grind [zNoBack, Int32.not_lt, Int32.not_le]
          · rfl
        · skip
          refine G.ldc (pc := 53) cx dX10_noBack_53 (v := (-1000002)) wm_ct_X10_37 ?_
          refine G.goto (pc := 55) cx dX10_noBack_55 (tgt := 59) (by decide) ?_
          refine G.iret (pc := 59) cx rfl dX10_noBack_59 ?_ ?_ rfl
          · refine congrArg (fun x => some (Value.int x)) ?_
            (try clear hin9); (try clear cx); first | rfl | (refine b2_t ?_; grind) | (refine b2_f ?_; grind) | (simp [*, zNoBack, Int32.not_lt, Int32.not_le]; done) | (simp_all [zNoBack, Int32.not_lt, Int32.not_le]; done) | grind [zNoBack, Int32.not_lt, Int32.not_le]
          · rfl
    · skip
      refine G.ldc (pc := 18) cx dX10_noBack_18 (v := (-1000001)) wm_ct_X10_64 ?_
      refine G.iret (pc := 20) cx rfl dX10_noBack_20 ?_ ?_ rfl
      · refine congrArg (fun x => some (Value.int x)) ?_
        (try clear hin9); (try clear cx); first | rfl | (refine b2_t ?_; grind) | (refine b2_f ?_; grind) | (simp [*, zNoBack, Int32.not_lt, Int32.not_le]; done) | (simp_all [zNoBack, Int32.not_lt, Int32.not_le]; done) | grind [zNoBack, Int32.not_lt, Int32.not_le]
      · rfl
set_option maxHeartbeats 4000000 in
set_option maxRecDepth 100000 in
theorem c_X10_doBack (l : Launch) (K : KT) (sz : Nat) (o : Nat) (z : Zt) (r : Rt) (V : VW) (k : Nat) (t : Int32) (h : k < 16) : Ct l K yX10_doBack cX10_doBack 3 (some .int) 3 [.ref o, .int (nI k), .int t] (mw K o z r V) sz (some (.int (t * z 205))) (mw K o (zDoBack z k t) r V) sz 0 0 := by
  refine Ct.ofG (by decide) (Nat.le_of_ble_eq_true rfl) ?_
  intro p9 e9 s9 m9 a9 b9 t9 c9 cx hin9
  refine G.lv0 (lv2 := [(0, .ref o), (1, .int (nI k)), (2, .int t)]) rfl ?_
  refine G.aload_n (pc := 0) cx dX10_doBack_0 rfl 0 rfl ?_
  refine G.iload_n (pc := 1) cx dX10_doBack_1 rfl 1 rfl ?_
  refine G.iconst (pc := 2) cx dX10_doBack_2 (v := 2) (by decide) ?_
  refine G.iconst (pc := 3) cx dX10_doBack_3 (v := 0) (by decide) ?_
  refine G.callV0 (pc := 4) (rest := []) (st1 := []) cx (c_X10_put l K sz o z r V k 2 0 (by omega)) ok_X10_put dX10_doBack_4 wm_ml_X10_53 rfl mw_m rfl rfl (Nat.le_of_ble_eq_true rfl) ⟨Nat.le_of_ble_eq_true rfl, Nat.le_of_ble_eq_true rfl⟩ rfl ?_
  refine G.aload_n (pc := 7) cx dX10_doBack_7 rfl 0 rfl ?_
  refine G.iload_n (pc := 8) cx dX10_doBack_8 rfl 1 rfl ?_
  refine G.bipush (pc := 9) cx dX10_doBack_9 (v := 6) (by decide) ?_
  refine G.iload_n (pc := 11) cx dX10_doBack_11 rfl 2 rfl ?_
  refine G.aload_n (pc := 12) cx dX10_doBack_12 rfl 0 rfl ?_
  refine G.getM (pc := 13) cx dX10_doBack_13 0 wm_fl_X10_7 (by decide) rfl ?_
  refine G.sipush (pc := 16) cx dX10_doBack_16 (v := 205) (by decide) ?_
  refine G.ialdV (pc := 19) cx dX10_doBack_19 mw_z (j := 205) rfl (by omega) (by decide) ((cut_at (by omega)).trans (upd_n (i := 10 * k + 2) (j := 205) z 0 (by omega))) ?_
  refine G.imul (pc := 20) cx dX10_doBack_20 ?_
  refine G.callV0 (pc := 21) (rest := []) (st1 := []) cx (c_X10_charge l K sz o (upd z (10 * k + 2) 0) r V k 6 (t * (z 205)) (by omega) (by omega)) ok_X10_charge dX10_doBack_21 wm_ml_X10_104 rfl mw_m rfl rfl (Nat.le_of_ble_eq_true rfl) ⟨Nat.le_of_ble_eq_true rfl, Nat.le_of_ble_eq_true rfl⟩ rfl ?_
  refine G.iload_n (pc := 24) cx dX10_doBack_24 rfl 2 rfl ?_
  refine G.aload_n (pc := 25) cx dX10_doBack_25 rfl 0 rfl ?_
  refine G.getM (pc := 26) cx dX10_doBack_26 0 wm_fl_X10_7 (by decide) rfl ?_
  refine G.sipush (pc := 29) cx dX10_doBack_29 (v := 205) (by decide) ?_
  refine G.ialdV (pc := 32) cx dX10_doBack_32 mw_z (j := 205) rfl (by omega) (by decide) (cut_at (by omega)) ?_
  refine G.imul (pc := 33) cx dX10_doBack_33 ?_
  refine G.iret (pc := 34) cx rfl dX10_doBack_34 ?_ ?_ rfl
  · refine congrArg (fun x => some (Value.int x)) ?_
    (try clear hin9); (try clear cx); rw [zCharge_lo _ _ _ _ (by omega) (by omega) (by omega) (by omega) (by omega), upd_n _ _ (by omega)]
  · refine congrArg (fun x => mw K o x r V) ?_
    (try clear hin9); (try clear cx); simp (disch := omega) only [zDoBack, upd_n]
set_option maxHeartbeats 4000000 in
set_option maxRecDepth 100000 in
theorem c_X10_back (l : Launch) (K : KT) (sz : Nat) (o : Nat) (z : Zt) (r : Rt) (V : VW) (a : Int32) (t : Int32) (N : Nat) (n : Nat) (hN : z 194 = nI N) (h16 : N ≤ 16) (hn : r.2.2.2.2 0 = nI n) (h4 : n ≤ 4) : Ct l K yX10_back cX10_back 4 (some .int) 4 [.ref o, .int a, .int t] (mw K o z r V) sz (some (.int (if zNoBack z a t < 0 then zNoBack z a t else t * z 205))) (mw K o (if zNoBack z a t < 0 then z else zDoBack z (a).toNatClampNeg t) (if zNoBack z a t < 0 then r else rRec r n z) V) sz 0 0 := by
  refine Ct.ofG (by decide) (Nat.le_of_ble_eq_true rfl) ?_
  intro p9 e9 s9 m9 a9 b9 t9 c9 cx hin9
  refine G.lv0 (lv2 := [(0, .ref o), (1, .int a), (2, .int t)]) rfl ?_
  refine G.aload_n (pc := 0) cx dX10_back_0 rfl 0 rfl ?_
  refine G.iload_n (pc := 1) cx dX10_back_1 rfl 1 rfl ?_
  refine G.iload_n (pc := 2) cx dX10_back_2 rfl 2 rfl ?_
  refine G.callV0 (pc := 3) (rest := []) (st1 := [.int (zNoBack z a t)]) cx (c_X10_noBack l K sz o z r V a t N (by assumption) (by omega)) ok_X10_noBack dX10_back_3 wm_ml_X10_147 rfl mw_m rfl rfl (Nat.le_of_ble_eq_true rfl) ⟨Nat.le_of_ble_eq_true rfl, Nat.le_of_ble_eq_true rfl⟩ rfl ?_
  refine G.istore_n (pc := 6) cx dX10_back_6 rfl (by decide) rfl ?_
  refine G.iload_n (pc := 7) cx dX10_back_7 rfl 0 rfl ?_
  refine G.if_ge (pc := 8) cx dX10_back_8 (tgt := 13) (by decide) (fun cq8 => ?_) (fun cq8 => ?_)
  · skip
    obtain ⟨k, hk, rfl⟩ := sail_of hN h16 (zNoBack_ok cq8)
    have tk : (nI k).toNatClampNeg = k := nI_clamp (by omega)
    refine G.aload_n (pc := 13) cx dX10_back_13 rfl 1 rfl ?_
    refine G.aload_n (pc := 14) cx dX10_back_14 rfl 1 rfl ?_
    refine G.getM (pc := 15) cx dX10_back_15 0 wm_fl_X10_7 (by decide) rfl ?_
    refine G.callV0 (pc := 18) (rest := []) (st1 := []) cx (c_X10_record l K sz o z r V n (by first | assumption | simp [*]) (by omega)) ok_X10_record dX10_back_18 wm_ml_X10_76 rfl mw_m rfl rfl (Nat.le_of_ble_eq_true rfl) ⟨Nat.le_of_ble_eq_true rfl, Nat.le_of_ble_eq_true rfl⟩ rfl ?_
    refine G.aload_n (pc := 21) cx dX10_back_21 rfl 1 rfl ?_
    refine G.iload_n (pc := 22) cx dX10_back_22 rfl 2 rfl ?_
    refine G.iload_n (pc := 23) cx dX10_back_23 rfl 3 rfl ?_
    refine G.callV0 (pc := 24) (rest := []) (st1 := [.int (t * z 205)]) cx (c_X10_doBack l K sz o z (rRec r n z) V k t (by omega)) ok_X10_doBack dX10_back_24 wm_ml_X10_150 rfl mw_m rfl rfl (Nat.le_of_ble_eq_true rfl) ⟨Nat.le_of_ble_eq_true rfl, Nat.le_of_ble_eq_true rfl⟩ rfl ?_
    refine G.iret (pc := 27) cx rfl dX10_back_27 ?_ ?_ rfl
    · refine congrArg (fun x => some (Value.int x)) ?_
      (try clear hin9); (try clear cx); first | (rw [if_neg (Int32.not_lt.mpr cq8), tk]; done) | (rw [if_neg (Int32.not_lt.mpr cq8)]; done)
    · show _ = _
      (try clear hin9); (try clear cx); rw [if_neg (Int32.not_lt.mpr cq8), if_neg (Int32.not_lt.mpr cq8), tk]
  · skip
    refine G.iload_n (pc := 11) cx dX10_back_11 rfl 0 rfl ?_
    refine G.iret (pc := 12) cx rfl dX10_back_12 ?_ ?_ rfl
    · refine congrArg (fun x => some (Value.int x)) ?_
      (try clear hin9); (try clear cx); first | (rw [if_pos (Int32.not_le.mp cq8)]; done) | (rw [if_neg (Int32.not_lt.mpr cq8)]; done) | (rw [if_neg (Int32.not_lt.mpr cq8)]; rfl)
    · show _ = _
      (try clear hin9); (try clear cx); first | (rw [if_pos (Int32.not_le.mp cq8), if_pos (Int32.not_le.mp cq8)]; done) | (rw [if_neg (Int32.not_lt.mpr cq8), if_neg (Int32.not_lt.mpr cq8)]; done) | (rw [if_neg (Int32.not_lt.mpr cq8), if_neg (Int32.not_lt.mpr cq8)]; rfl)
set_option maxHeartbeats 4000000 in
set_option maxRecDepth 100000 in
theorem c_X10_noSail (l : Launch) (K : KT) (sz : Nat) (o : Nat) (z : Zt) (r : Rt) (V : VW)  : Ct l K yX10_noSail cX10_noSail 1 (some .int) 1 [.ref o] (mw K o z r V) sz (some (.int (zNoSail z))) (mw K o z r V) sz 0 0 := by
  refine Ct.ofG (by decide) (Nat.le_of_ble_eq_true rfl) ?_
  intro p9 e9 s9 m9 a9 b9 t9 c9 cx hin9
  refine G.lv0 (lv2 := [(0, .ref o)]) rfl ?_
  refine G.aload_n (pc := 0) cx dX10_noSail_0 rfl 0 rfl ?_
  refine G.callV0 (pc := 1) (rest := []) (st1 := [.int (b2 (z 191 = 1))]) cx (c_X10_isAtSea l K sz o z r V) ok_X10_isAtSea dX10_noSail_1 wm_ml_X10_65 rfl mw_m rfl rfl (Nat.le_of_ble_eq_true rfl) ⟨Nat.le_of_ble_eq_true rfl, Nat.le_of_ble_eq_true rfl⟩ rfl ?_
  refine G.if_eqB (pc := 4) cx dX10_noSail_4 (tgt := 12) (by decide) (fun cq4 => ?_) (fun cq4 => ?_)
  · skip
    refine G.iconst (pc := 12) cx dX10_noSail_12 (v := 0) (by decide) ?_
    refine G.iret (pc := 13) cx rfl dX10_noSail_13 ?_ ?_ rfl
    · refine congrArg (fun x => some (Value.int x)) ?_
      (try clear hin9); (try clear cx); first | rfl | (refine b2_t ?_; grind) | (refine b2_f ?_; grind) | (simp [*, zNoSail]; done) | (simp_all [zNoSail]; done) | grind [zNoSail]
    · rfl
  · skip
    refine G.ldc (pc := 7) cx dX10_noSail_7 (v := (-1000002)) wm_ct_X10_37 ?_
    refine G.goto (pc := 9) cx dX10_noSail_9 (tgt := 13) (by decide) ?_
    refine G.iret (pc := 13) cx rfl dX10_noSail_13 ?_ ?_ rfl
    · refine congrArg (fun x => some (Value.int x)) ?_
      (try clear hin9); (try clear cx); first | rfl | (refine b2_t ?_; grind) | (refine b2_f ?_; grind) | (simp [*, zNoSail]; done) | (simp_all [zNoSail]; done) | grind [zNoSail]
    · rfl
set_option maxHeartbeats 4000000 in
set_option maxRecDepth 100000 in
theorem c_X10_doSail (l : Launch) (K : KT) (sz : Nat) (o : Nat) (z : Zt) (r : Rt) (V : VW) (N : Nat) (hN : z 194 = nI N) (h16 : N ≤ 16) : Ct l K yX10_doSail cX10_doSail 3 (some .int) 3 [.ref o] (mw K o z r V) sz (some (.int (nI (zLeft z N)))) (mw K o (zDoSail z N) r V) sz 0 0 := by
  refine Ct.ofG (by decide) (Nat.le_of_ble_eq_true rfl) ?_
  intro p9 e9 s9 m9 a9 b9 t9 c9 cx hin9
  refine G.lv0 (lv2 := [(0, .ref o)]) rfl ?_
  have hF : ∀ k, k ≤ N → zSailTo z k 194 = nI N := fun k hk => (zSailTo_o z (by omega) k (fun q hq => by omega)).trans hN
  refine G.iconst (pc := 0) cx dX10_doSail_0 (v := 0) (by decide) ?_
  refine G.istore_n (pc := 1) cx dX10_doSail_1 rfl (by decide) rfl ?_
  refine G.iconst (pc := 2) cx dX10_doSail_2 (v := 0) (by decide) ?_
  refine G.istore_n (pc := 3) cx dX10_doSail_3 rfl (by decide) rfl ?_
  have L4_1 : ∀ (f k4 : Nat), N - k4 < f → k4 ≤ N → G K p9 l e9 (rmL 3 0 0) s9 m9 a9 b9 t9 c9 (MQ b9 (QCt K (some (.int (nI (zLeft z N)))) (mw K o (zDoSail z N) r V) sz) a9 s9 0 0 (kA K)) 3 (mw K o (zSailTo z k4) r V) sz 0 0 4 [(0, .ref o), (1, .int (nI (zLeft z k4))), (2, .int (nI k4))] [] := by
    intro f
    induction f with
    | zero => intro k4 h9; omega
    | succ f ih4 =>
      intro k4 h94 h84
      refine G.iload_n (pc := 4) cx dX10_doSail_4 rfl 2 rfl ?_
      refine G.aload_n (pc := 5) cx dX10_doSail_5 rfl 0 rfl ?_
      refine G.getM (pc := 6) cx dX10_doSail_6 0 wm_fl_X10_7 (by decide) rfl ?_
      refine G.sipush (pc := 9) cx dX10_doSail_9 (v := 194) (by decide) ?_
      refine G.ialdV (pc := 12) cx dX10_doSail_12 mw_z (j := 194) rfl (by omega) (by decide) ((cut_at (by omega)).trans (hF _ (by omega))) ?_
      refine G.icmp_geN (pc := 13) cx k4 N (by omega) (by omega) dX10_doSail_13 (tgt := 63) (by decide) (fun cq13 => ?_) (fun cq13 => ?_)
      · skip
        have ex4 : k4 = N := by omega
        try rw [ex4]
        refine G.aload_n (pc := 63) cx dX10_doSail_63 rfl 0 rfl ?_
        refine G.getM (pc := 64) cx dX10_doSail_64 0 wm_fl_X10_7 (by decide) rfl ?_
        refine G.sipush (pc := 67) cx dX10_doSail_67 (v := 191) (by decide) ?_
        refine G.iconst (pc := 70) cx dX10_doSail_70 (v := 1) (by decide) ?_
        refine G.iastC (pc := 71) cx dX10_doSail_71 mw_z (j := 191) rfl (by omega) (by decide) mwZ ?_
        refine G.iload_n (pc := 72) cx dX10_doSail_72 rfl 1 rfl ?_
        refine G.iret (pc := 73) cx rfl dX10_doSail_73 ?_ ?_ rfl
        · rfl
        · refine congrArg (fun x => mw K o x r V) ?_
          (try clear L4_1); (try clear ih4); (try clear hin9); (try clear cx); rfl
      · skip
        refine G.aload_n (pc := 16) cx dX10_doSail_16 rfl 0 rfl ?_
        refine G.iload_n (pc := 17) cx dX10_doSail_17 rfl 2 rfl ?_
        refine G.iconst (pc := 18) cx dX10_doSail_18 (v := 2) (by decide) ?_
        refine G.callV0 (pc := 19) (rest := []) (st1 := [.int ((zSailTo z k4) (10 * k4 + 2))]) cx (c_X10_of l K sz o (zSailTo z k4) r V k4 2 (by omega)) ok_X10_of dX10_doSail_19 wm_ml_X10_29 rfl mw_m rfl rfl (Nat.le_of_ble_eq_true rfl) ⟨Nat.le_of_ble_eq_true rfl, Nat.le_of_ble_eq_true rfl⟩ rfl ?_
        refine G.iconst (pc := 22) cx dX10_doSail_22 (v := 1) (by decide) ?_
        refine G.icmp_ne (pc := 23) cx dX10_doSail_23 (tgt := 57) (by decide) (fun cq23 => ?_) (fun cq23 => ?_)
        · skip
          refine G.iinc (pc := 57) cx dX10_doSail_57 (v := nI (k4 + 1)) (k := 2) rfl (nI_add k4 1) (by decide) rfl ?_
          refine G.goto (pc := 60) cx dX10_doSail_60 (tgt := 4) (by decide) ?_
          refine G.cast (V' := (mw K o (zSailTo z (k4 + 1)) r V)) (congrArg (fun q9 => mw K o q9 r V) (by first | (simp [zSailTo, *]; done) | (simp [zLeft, *]; done) | (simp [zLeft, *, nI_1]; done))) ?_
          refine G.castL (lv' := [(0, .ref o), (1, .int (nI (zLeft z k4))), (2, .int (nI (k4 + 1)))]) [1, 2, 0] rfl ?_
          refine G.lv0 (lv2 := [(0, .ref o), (1, .int (nI (zLeft z (k4 + 1)))), (2, .int (nI (k4 + 1)))]) (congrArg (fun q9 => ([(0, .ref o), (1, .int q9), (2, .int (nI (k4 + 1)))] : List (Nat × Value))) (show (nI (zLeft z k4) : Int32) = nI (zLeft z (k4 + 1)) from by first | (simp [zSailTo, *]; done) | (simp [zLeft, *]; done) | (simp [zLeft, *, nI_1]; done))) ?_
          exact ih4 (k4 + 1) (by omega) (by omega)
        · skip
          refine G.aload_n (pc := 26) cx dX10_doSail_26 rfl 0 rfl ?_
          refine G.getM (pc := 27) cx dX10_doSail_27 0 wm_fl_X10_7 (by decide) rfl ?_
          refine G.sipush (pc := 30) cx dX10_doSail_30 (v := 202) (by decide) ?_
          refine G.dup2 (pc := 33) cx dX10_doSail_33 rfl rfl ?_
          refine G.ialdV (pc := 34) cx dX10_doSail_34 mw_z (j := 202) rfl (by omega) (by decide) (cut_at (by omega)) ?_
          refine G.aload_n (pc := 35) cx dX10_doSail_35 rfl 0 rfl ?_
          refine G.iload_n (pc := 36) cx dX10_doSail_36 rfl 2 rfl ?_
          refine G.callV0 (pc := 37) (rest := [.int ((zSailTo z k4) 202), .int 202, .ref (o + 1)]) (st1 := [.int (zBal (zSailTo z k4) k4), .int ((zSailTo z k4) 202), .int 202, .ref (o + 1)]) cx (c_X10_balance l K sz o (zSailTo z k4) r V k4 (by omega)) ok_X10_balance dX10_doSail_37 wm_ml_X10_95 rfl mw_m rfl rfl (Nat.le_of_ble_eq_true rfl) ⟨Nat.le_of_ble_eq_true rfl, Nat.le_of_ble_eq_true rfl⟩ rfl ?_
          refine G.iadd (pc := 40) cx dX10_doSail_40 ?_
          refine G.iastC (pc := 41) cx dX10_doSail_41 mw_z (j := 202) rfl (by omega) (by decide) mwZ ?_
          refine G.aload_n (pc := 42) cx dX10_doSail_42 rfl 0 rfl ?_
          refine G.iload_n (pc := 43) cx dX10_doSail_43 rfl 2 rfl ?_
          refine G.iconst (pc := 44) cx dX10_doSail_44 (v := 2) (by decide) ?_
          refine G.iconst (pc := 45) cx dX10_doSail_45 (v := 2) (by decide) ?_
          refine G.callV0 (pc := 46) (rest := []) (st1 := []) cx (c_X10_put l K sz o (upd (zSailTo z k4) 202 (((zSailTo z k4) 202) + (zBal (zSailTo z k4) k4))) r V k4 2 2 (by omega)) ok_X10_put dX10_doSail_46 wm_ml_X10_53 rfl mw_m rfl rfl (Nat.le_of_ble_eq_true rfl) ⟨Nat.le_of_ble_eq_true rfl, Nat.le_of_ble_eq_true rfl⟩ rfl ?_
          refine G.aload_n (pc := 49) cx dX10_doSail_49 rfl 0 rfl ?_
          refine G.iload_n (pc := 50) cx dX10_doSail_50 rfl 2 rfl ?_
          refine G.callV0 (pc := 51) (rest := []) (st1 := []) cx (c_X10_clear l K sz o (upd (upd (zSailTo z k4) 202 (((zSailTo z k4) 202) + (zBal (zSailTo z k4) k4))) (10 * k4 + 2) 2) r V k4 (by omega)) ok_X10_clear dX10_doSail_51 wm_ml_X10_70 rfl mw_m rfl rfl (Nat.le_of_ble_eq_true rfl) ⟨Nat.le_of_ble_eq_true rfl, Nat.le_of_ble_eq_true rfl⟩ rfl ?_
          refine G.iinc (pc := 54) cx dX10_doSail_54 (v := nI (zLeft z k4 + 1)) (k := 1) rfl (nI_add (zLeft z k4) 1) (by decide) rfl ?_
          refine G.iinc (pc := 57) cx dX10_doSail_57 (v := nI (k4 + 1)) (k := 2) rfl (nI_add k4 1) (by decide) rfl ?_
          refine G.goto (pc := 60) cx dX10_doSail_60 (tgt := 4) (by decide) ?_
          refine G.cast (V' := (mw K o (zSailTo z (k4 + 1)) r V)) (congrArg (fun q9 => mw K o q9 r V) (by first | (simp [zSailTo, *]; done) | (simp [zLeft, *]; done) | (simp [zLeft, *, nI_1]; done))) ?_
          refine G.castL (lv' := [(0, .ref o), (1, .int (nI (zLeft z k4 + 1))), (2, .int (nI (k4 + 1)))]) [2, 1, 0] rfl ?_
          refine G.lv0 (lv2 := [(0, .ref o), (1, .int (nI (zLeft z (k4 + 1)))), (2, .int (nI (k4 + 1)))]) (congrArg (fun q9 => ([(0, .ref o), (1, .int q9), (2, .int (nI (k4 + 1)))] : List (Nat × Value))) (show (nI (zLeft z k4 + 1) : Int32) = nI (zLeft z (k4 + 1)) from by first | (simp [zSailTo, *]; done) | (simp [zLeft, *]; done) | (simp [zLeft, *, nI_1]; done))) ?_
          exact ih4 (k4 + 1) (by omega) (by omega)
  refine G.cast (V' := (mw K o (zSailTo z 0) r V)) (congrArg (fun q9 => mw K o q9 r V) (by rfl)) ?_
  refine G.castL (lv' := [(0, .ref o), (1, .int 0), (2, .int 0)]) [2, 1, 0] rfl ?_
  refine G.lv0 (lv2 := [(0, .ref o), (1, .int (nI (zLeft z 0))), (2, .int 0)]) (congrArg (fun q9 => ([(0, .ref o), (1, .int q9), (2, .int 0)] : List (Nat × Value))) (show (0 : Int32) = nI (zLeft z 0) from by rfl)) ?_
  refine G.lv0 (lv2 := [(0, .ref o), (1, .int (nI (zLeft z 0))), (2, .int (nI 0))]) (congrArg (fun q9 => ([(0, .ref o), (1, .int (nI (zLeft z 0))), (2, .int q9)] : List (Nat × Value))) (show (0 : Int32) = nI 0 from by rfl)) ?_
  exact L4_1 (N + 1) 0 (by omega) (by omega)
set_option maxHeartbeats 4000000 in
set_option maxRecDepth 100000 in
theorem c_X10_sail (l : Launch) (K : KT) (sz : Nat) (o : Nat) (z : Zt) (r : Rt) (V : VW) (N : Nat) (n : Nat) (hN : z 194 = nI N) (h16 : N ≤ 16) (hn : r.2.2.2.2 0 = nI n) (h4 : n ≤ 4) : Ct l K yX10_sail cX10_sail 2 (some .int) 4 [.ref o] (mw K o z r V) sz (some (.int (if zNoSail z < 0 then zNoSail z else nI (zLeft z N)))) (mw K o (if zNoSail z < 0 then z else zDoSail z N) (if zNoSail z < 0 then r else rRec r n z) V) sz 0 0 := by
  refine Ct.ofG (by decide) (Nat.le_of_ble_eq_true rfl) ?_
  intro p9 e9 s9 m9 a9 b9 t9 c9 cx hin9
  refine G.lv0 (lv2 := [(0, .ref o)]) rfl ?_
  refine G.aload_n (pc := 0) cx dX10_sail_0 rfl 0 rfl ?_
  refine G.callV0 (pc := 1) (rest := []) (st1 := [.int (zNoSail z)]) cx (c_X10_noSail l K sz o z r V) ok_X10_noSail dX10_sail_1 wm_ml_X10_153 rfl mw_m rfl rfl (Nat.le_of_ble_eq_true rfl) ⟨Nat.le_of_ble_eq_true rfl, Nat.le_of_ble_eq_true rfl⟩ rfl ?_
  refine G.istore_n (pc := 4) cx dX10_sail_4 rfl (by decide) rfl ?_
  refine G.iload_n (pc := 5) cx dX10_sail_5 rfl 0 rfl ?_
  refine G.if_ge (pc := 6) cx dX10_sail_6 (tgt := 11) (by decide) (fun cq6 => ?_) (fun cq6 => ?_)
  · skip
    refine G.aload_n (pc := 11) cx dX10_sail_11 rfl 1 rfl ?_
    refine G.aload_n (pc := 12) cx dX10_sail_12 rfl 1 rfl ?_
    refine G.getM (pc := 13) cx dX10_sail_13 0 wm_fl_X10_7 (by decide) rfl ?_
    refine G.callV0 (pc := 16) (rest := []) (st1 := []) cx (c_X10_record l K sz o z r V n (by first | assumption | simp [*]) (by omega)) ok_X10_record dX10_sail_16 wm_ml_X10_76 rfl mw_m rfl rfl (Nat.le_of_ble_eq_true rfl) ⟨Nat.le_of_ble_eq_true rfl, Nat.le_of_ble_eq_true rfl⟩ rfl ?_
    refine G.aload_n (pc := 19) cx dX10_sail_19 rfl 1 rfl ?_
    refine G.callV0 (pc := 20) (rest := []) (st1 := [.int (nI (zLeft z N))]) cx (c_X10_doSail l K sz o z (rRec r n z) V N (by assumption) (by omega)) ok_X10_doSail dX10_sail_20 wm_ml_X10_157 rfl mw_m rfl rfl (Nat.le_of_ble_eq_true rfl) ⟨Nat.le_of_ble_eq_true rfl, Nat.le_of_ble_eq_true rfl⟩ rfl ?_
    refine G.iret (pc := 23) cx rfl dX10_sail_23 ?_ ?_ rfl
    · refine congrArg (fun x => some (Value.int x)) ?_
      (try clear hin9); (try clear cx); first | (rw [if_pos (Int32.not_le.mp cq6)]; done) | (rw [if_neg (Int32.not_lt.mpr cq6)]; done) | (rw [if_neg (Int32.not_lt.mpr cq6)]; rfl)
    · show _ = _
      (try clear hin9); (try clear cx); first | (rw [if_pos (Int32.not_le.mp cq6), if_pos (Int32.not_le.mp cq6)]; done) | (rw [if_neg (Int32.not_lt.mpr cq6), if_neg (Int32.not_lt.mpr cq6)]; done) | (rw [if_neg (Int32.not_lt.mpr cq6), if_neg (Int32.not_lt.mpr cq6)]; rfl)
  · skip
    refine G.iload_n (pc := 9) cx dX10_sail_9 rfl 0 rfl ?_
    refine G.iret (pc := 10) cx rfl dX10_sail_10 ?_ ?_ rfl
    · refine congrArg (fun x => some (Value.int x)) ?_
      (try clear hin9); (try clear cx); first | (rw [if_pos (Int32.not_le.mp cq6)]; done) | (rw [if_neg (Int32.not_lt.mpr cq6)]; done) | (rw [if_neg (Int32.not_lt.mpr cq6)]; rfl)
    · show _ = _
      (try clear hin9); (try clear cx); first | (rw [if_pos (Int32.not_le.mp cq6), if_pos (Int32.not_le.mp cq6)]; done) | (rw [if_neg (Int32.not_lt.mpr cq6), if_neg (Int32.not_lt.mpr cq6)]; done) | (rw [if_neg (Int32.not_lt.mpr cq6), if_neg (Int32.not_lt.mpr cq6)]; rfl)
set_option maxHeartbeats 4000000 in
set_option maxRecDepth 100000 in
theorem c_X10_noPort (l : Launch) (K : KT) (sz : Nat) (o : Nat) (z : Zt) (r : Rt) (V : VW)  : Ct l K yX10_noPort cX10_noPort 1 (some .int) 1 [.ref o] (mw K o z r V) sz (some (.int (zNoPort z))) (mw K o z r V) sz 0 0 := by
  refine Ct.ofG (by decide) (Nat.le_of_ble_eq_true rfl) ?_
  intro p9 e9 s9 m9 a9 b9 t9 c9 cx hin9
  refine G.lv0 (lv2 := [(0, .ref o)]) rfl ?_
  refine G.aload_n (pc := 0) cx dX10_noPort_0 rfl 0 rfl ?_
  refine G.callV0 (pc := 1) (rest := []) (st1 := [.int (b2 (z 191 = 1))]) cx (c_X10_isAtSea l K sz o z r V) ok_X10_isAtSea dX10_noPort_1 wm_ml_X10_65 rfl mw_m rfl rfl (Nat.le_of_ble_eq_true rfl) ⟨Nat.le_of_ble_eq_true rfl, Nat.le_of_ble_eq_true rfl⟩ rfl ?_
  refine G.if_eqB (pc := 4) cx dX10_noPort_4 (tgt := 11) (by decide) (fun cq4 => ?_) (fun cq4 => ?_)
  · skip
    refine G.ldc (pc := 11) cx dX10_noPort_11 (v := (-1000002)) wm_ct_X10_37 ?_
    refine G.iret (pc := 13) cx rfl dX10_noPort_13 ?_ ?_ rfl
    · refine congrArg (fun x => some (Value.int x)) ?_
      (try clear hin9); (try clear cx); first | rfl | (refine b2_t ?_; grind) | (refine b2_f ?_; grind) | (simp [*, zNoPort]; done) | (simp_all [zNoPort]; done) | grind [zNoPort]
    · rfl
  · skip
    refine G.iconst (pc := 7) cx dX10_noPort_7 (v := 0) (by decide) ?_
    refine G.goto (pc := 8) cx dX10_noPort_8 (tgt := 13) (by decide) ?_
    refine G.iret (pc := 13) cx rfl dX10_noPort_13 ?_ ?_ rfl
    · refine congrArg (fun x => some (Value.int x)) ?_
      (try clear hin9); (try clear cx); first | rfl | (refine b2_t ?_; grind) | (refine b2_f ?_; grind) | (simp [*, zNoPort]; done) | (simp_all [zNoPort]; done) | grind [zNoPort]
    · rfl
set_option maxHeartbeats 4000000 in
set_option maxRecDepth 100000 in
theorem c_X10_doPort (l : Launch) (K : KT) (sz : Nat) (o : Nat) (z : Zt) (r : Rt) (V : VW)  : Ct l K yX10_doPort cX10_doPort 1 (some .int) 0 [.ref o] (mw K o z r V) sz (some (.int (z 193 + 1))) (mw K o (zDoPort z) r V) sz 0 0 := by
  refine Ct.ofG (by decide) (Nat.le_of_ble_eq_true rfl) ?_
  intro p9 e9 s9 m9 a9 b9 t9 c9 cx hin9
  refine G.lv0 (lv2 := [(0, .ref o)]) rfl ?_
  refine G.aload_n (pc := 0) cx dX10_doPort_0 rfl 0 rfl ?_
  refine G.getM (pc := 1) cx dX10_doPort_1 0 wm_fl_X10_7 (by decide) rfl ?_
  refine G.sipush (pc := 4) cx dX10_doPort_4 (v := 191) (by decide) ?_
  refine G.iconst (pc := 7) cx dX10_doPort_7 (v := 0) (by decide) ?_
  refine G.iastC (pc := 8) cx dX10_doPort_8 mw_z (j := 191) rfl (by omega) (by decide) mwZ ?_
  refine G.aload_n (pc := 9) cx dX10_doPort_9 rfl 0 rfl ?_
  refine G.getM (pc := 10) cx dX10_doPort_10 0 wm_fl_X10_7 (by decide) rfl ?_
  refine G.sipush (pc := 13) cx dX10_doPort_13 (v := 193) (by decide) ?_
  refine G.dup2 (pc := 16) cx dX10_doPort_16 rfl rfl ?_
  refine G.ialdV (pc := 17) cx dX10_doPort_17 mw_z (j := 193) rfl (by omega) (by decide) ((cut_at (by omega)).trans (upd_n (i := 191) (j := 193) z 0 (by omega))) ?_
  refine G.iconst (pc := 18) cx dX10_doPort_18 (v := 1) (by decide) ?_
  refine G.iadd (pc := 19) cx dX10_doPort_19 ?_
  refine G.iastC (pc := 20) cx dX10_doPort_20 mw_z (j := 193) rfl (by omega) (by decide) mwZ ?_
  refine G.aload_n (pc := 21) cx dX10_doPort_21 rfl 0 rfl ?_
  refine G.getM (pc := 22) cx dX10_doPort_22 0 wm_fl_X10_7 (by decide) rfl ?_
  refine G.sipush (pc := 25) cx dX10_doPort_25 (v := 193) (by decide) ?_
  refine G.ialdV (pc := 28) cx dX10_doPort_28 mw_z (j := 193) rfl (by omega) (by decide) ((cut_at (by omega)).trans (upd_s (upd z 191 0) 193 ((z 193) + 1))) ?_
  refine G.iret (pc := 29) cx rfl dX10_doPort_29 ?_ ?_ rfl
  · refine congrArg (fun x => some (Value.int x)) ?_
    (try clear hin9); (try clear cx); simp (disch := omega) only [upd_n, upd_s]
  · refine congrArg (fun x => mw K o x r V) ?_
    (try clear hin9); (try clear cx); simp (disch := omega) only [zDoPort, upd_n]
set_option maxHeartbeats 4000000 in
set_option maxRecDepth 100000 in
theorem c_X10_port (l : Launch) (K : KT) (sz : Nat) (o : Nat) (z : Zt) (r : Rt) (V : VW) (n : Nat) (hn : r.2.2.2.2 0 = nI n) (h4 : n ≤ 4) : Ct l K yX10_port cX10_port 2 (some .int) 2 [.ref o] (mw K o z r V) sz (some (.int (if zNoPort z < 0 then zNoPort z else z 193 + 1))) (mw K o (if zNoPort z < 0 then z else zDoPort z) (if zNoPort z < 0 then r else rRec r n z) V) sz 0 0 := by
  refine Ct.ofG (by decide) (Nat.le_of_ble_eq_true rfl) ?_
  intro p9 e9 s9 m9 a9 b9 t9 c9 cx hin9
  refine G.lv0 (lv2 := [(0, .ref o)]) rfl ?_
  refine G.aload_n (pc := 0) cx dX10_port_0 rfl 0 rfl ?_
  refine G.callV0 (pc := 1) (rest := []) (st1 := [.int (zNoPort z)]) cx (c_X10_noPort l K sz o z r V) ok_X10_noPort dX10_port_1 wm_ml_X10_160 rfl mw_m rfl rfl (Nat.le_of_ble_eq_true rfl) ⟨Nat.le_of_ble_eq_true rfl, Nat.le_of_ble_eq_true rfl⟩ rfl ?_
  refine G.istore_n (pc := 4) cx dX10_port_4 rfl (by decide) rfl ?_
  refine G.iload_n (pc := 5) cx dX10_port_5 rfl 0 rfl ?_
  refine G.if_ge (pc := 6) cx dX10_port_6 (tgt := 11) (by decide) (fun cq6 => ?_) (fun cq6 => ?_)
  · skip
    refine G.aload_n (pc := 11) cx dX10_port_11 rfl 1 rfl ?_
    refine G.aload_n (pc := 12) cx dX10_port_12 rfl 1 rfl ?_
    refine G.getM (pc := 13) cx dX10_port_13 0 wm_fl_X10_7 (by decide) rfl ?_
    refine G.callV0 (pc := 16) (rest := []) (st1 := []) cx (c_X10_record l K sz o z r V n (by first | assumption | simp [*]) (by omega)) ok_X10_record dX10_port_16 wm_ml_X10_76 rfl mw_m rfl rfl (Nat.le_of_ble_eq_true rfl) ⟨Nat.le_of_ble_eq_true rfl, Nat.le_of_ble_eq_true rfl⟩ rfl ?_
    refine G.aload_n (pc := 19) cx dX10_port_19 rfl 1 rfl ?_
    refine G.callV0 (pc := 20) (rest := []) (st1 := [.int (z 193 + 1)]) cx (c_X10_doPort l K sz o z (rRec r n z) V) ok_X10_doPort dX10_port_20 wm_ml_X10_163 rfl mw_m rfl rfl (Nat.le_of_ble_eq_true rfl) ⟨Nat.le_of_ble_eq_true rfl, Nat.le_of_ble_eq_true rfl⟩ rfl ?_
    refine G.iret (pc := 23) cx rfl dX10_port_23 ?_ ?_ rfl
    · refine congrArg (fun x => some (Value.int x)) ?_
      (try clear hin9); (try clear cx); first | (rw [if_pos (Int32.not_le.mp cq6)]; done) | (rw [if_neg (Int32.not_lt.mpr cq6)]; done) | (rw [if_neg (Int32.not_lt.mpr cq6)]; rfl)
    · show _ = _
      (try clear hin9); (try clear cx); first | (rw [if_pos (Int32.not_le.mp cq6), if_pos (Int32.not_le.mp cq6)]; done) | (rw [if_neg (Int32.not_lt.mpr cq6), if_neg (Int32.not_lt.mpr cq6)]; done) | (rw [if_neg (Int32.not_lt.mpr cq6), if_neg (Int32.not_lt.mpr cq6)]; rfl)
  · skip
    refine G.iload_n (pc := 9) cx dX10_port_9 rfl 0 rfl ?_
    refine G.iret (pc := 10) cx rfl dX10_port_10 ?_ ?_ rfl
    · refine congrArg (fun x => some (Value.int x)) ?_
      (try clear hin9); (try clear cx); first | (rw [if_pos (Int32.not_le.mp cq6)]; done) | (rw [if_neg (Int32.not_lt.mpr cq6)]; done) | (rw [if_neg (Int32.not_lt.mpr cq6)]; rfl)
    · show _ = _
      (try clear hin9); (try clear cx); first | (rw [if_pos (Int32.not_le.mp cq6), if_pos (Int32.not_le.mp cq6)]; done) | (rw [if_neg (Int32.not_lt.mpr cq6), if_neg (Int32.not_lt.mpr cq6)]; done) | (rw [if_neg (Int32.not_lt.mpr cq6), if_neg (Int32.not_lt.mpr cq6)]; rfl)
set_option maxHeartbeats 4000000 in
set_option maxRecDepth 100000 in
theorem c_X10_noDays (l : Launch) (K : KT) (sz : Nat) (o : Nat) (z : Zt) (r : Rt) (V : VW) (m : Int32)  : Ct l K yX10_noDays cX10_noDays 2 (some .int) 1 [.ref o, .int m] (mw K o z r V) sz (some (.int (zNoDays z m))) (mw K o z r V) sz 0 0 := by
  refine Ct.ofG (by decide) (Nat.le_of_ble_eq_true rfl) ?_
  intro p9 e9 s9 m9 a9 b9 t9 c9 cx hin9
  refine G.lv0 (lv2 := [(0, .ref o), (1, .int m)]) rfl ?_
  refine G.iload_n (pc := 0) cx dX10_noDays_0 rfl 1 rfl ?_
  refine G.iconst (pc := 1) cx dX10_noDays_1 (v := 1) (by decide) ?_
  refine G.bipush (pc := 2) cx dX10_noDays_2 (v := 99) (by decide) ?_
  refine G.callS0 (pc := 4) (rest := []) (st1 := [.int (b2 (1 ≤ m ∧ m ≤ 99))]) cx (c_X10_in l K sz m 1 99 (mw K o z r V)) ok_X10_in dX10_noDays_4 wm_ml_X10_25 rfl rfl (Nat.le_of_ble_eq_true rfl) ⟨Nat.le_of_ble_eq_true rfl, Nat.le_of_ble_eq_true rfl⟩ rfl ?_
  refine G.if_neB (pc := 7) cx dX10_noDays_7 (tgt := 15) (by decide) (fun cq7 => ?_) (fun cq7 => ?_)
  · skip
    refine G.aload_n (pc := 15) cx dX10_noDays_15 rfl 0 rfl ?_
    refine G.getM (pc := 16) cx dX10_noDays_16 0 wm_fl_X10_7 (by decide) rfl ?_
    refine G.sipush (pc := 19) cx dX10_noDays_19 (v := 192) (by decide) ?_
    refine G.ialdV (pc := 22) cx dX10_noDays_22 mw_z (j := 192) rfl (by omega) (by decide) (cut_at (by omega)) ?_
    refine G.iload_n (pc := 23) cx dX10_noDays_23 rfl 1 rfl ?_
    refine G.iadd (pc := 24) cx dX10_noDays_24 ?_
    refine G.sipush (pc := 25) cx dX10_noDays_25 (v := 999) (by decide) ?_
    refine G.icmp_le (pc := 28) cx dX10_noDays_28 (tgt := 36) (by decide) (fun cq28 => ?_) (fun cq28 => ?_)
    · skip
      refine G.iconst (pc := 36) cx dX10_noDays_36 (v := 0) (by decide) ?_
      refine G.iret (pc := 37) cx rfl dX10_noDays_37 ?_ ?_ rfl
      · refine congrArg (fun x => some (Value.int x)) ?_
        (try clear hin9); (try clear cx); first | rfl | (refine b2_t ?_; grind) | (refine b2_f ?_; grind) | (simp [*, zNoDays, Int32.not_lt, Int32.not_le]; done) | (simp_all [zNoDays, Int32.not_lt, Int32.not_le]; done) | grind [zNoDays, Int32.not_lt, Int32.not_le]
      · rfl
    · skip
      refine G.ldc (pc := 31) cx dX10_noDays_31 (v := (-1000003)) wm_ct_X10_69 ?_
      refine G.goto (pc := 33) cx dX10_noDays_33 (tgt := 37) (by decide) ?_
      refine G.iret (pc := 37) cx rfl dX10_noDays_37 ?_ ?_ rfl
      · refine congrArg (fun x => some (Value.int x)) ?_
        (try clear hin9); (try clear cx); first | rfl | (refine b2_t ?_; grind) | (refine b2_f ?_; grind) | (simp [*, zNoDays, Int32.not_lt, Int32.not_le]; done) | (simp_all [zNoDays, Int32.not_lt, Int32.not_le]; done) | grind [zNoDays, Int32.not_lt, Int32.not_le]
      · rfl
  · skip
    refine G.ldc (pc := 10) cx dX10_noDays_10 (v := (-1000001)) wm_ct_X10_64 ?_
    refine G.goto (pc := 12) cx dX10_noDays_12 (tgt := 37) (by decide) ?_
    refine G.iret (pc := 37) cx rfl dX10_noDays_37 ?_ ?_ rfl
    · refine congrArg (fun x => some (Value.int x)) ?_
      (try clear hin9); (try clear cx); first | rfl | (refine b2_t ?_; grind) | (refine b2_f ?_; grind) | (simp [*, zNoDays, Int32.not_lt, Int32.not_le]; done) | (simp_all [zNoDays, Int32.not_lt, Int32.not_le]; done) | grind [zNoDays, Int32.not_lt, Int32.not_le]
    · rfl
set_option maxHeartbeats 4000000 in
set_option maxRecDepth 100000 in
theorem c_X10_doDays (l : Launch) (K : KT) (sz : Nat) (o : Nat) (z : Zt) (r : Rt) (V : VW) (m : Int32) (N : Nat) (hN : z 194 = nI N) (h16 : N ≤ 16) : Ct l K yX10_doDays cX10_doDays 4 (some .int) 2 [.ref o, .int m] (mw K o z r V) sz (some (.int (z 192 + m))) (mw K o (zDayTo z m N) r V) sz 0 0 := by
  refine Ct.ofG (by decide) (Nat.le_of_ble_eq_true rfl) ?_
  intro p9 e9 s9 m9 a9 b9 t9 c9 cx hin9
  refine G.lv0 (lv2 := [(0, .ref o), (1, .int m)]) rfl ?_
  have hF : ∀ k, k ≤ N → zDayTo z m k 194 = nI N := fun k hk => (zDayTo_o z m (by omega) k (fun q hq => by omega)).trans hN
  refine G.aload_n (pc := 0) cx dX10_doDays_0 rfl 0 rfl ?_
  refine G.getM (pc := 1) cx dX10_doDays_1 0 wm_fl_X10_7 (by decide) rfl ?_
  refine G.sipush (pc := 4) cx dX10_doDays_4 (v := 192) (by decide) ?_
  refine G.dup2 (pc := 7) cx dX10_doDays_7 rfl rfl ?_
  refine G.ialdV (pc := 8) cx dX10_doDays_8 mw_z (j := 192) rfl (by omega) (by decide) (cut_at (by omega)) ?_
  refine G.iload_n (pc := 9) cx dX10_doDays_9 rfl 1 rfl ?_
  refine G.iadd (pc := 10) cx dX10_doDays_10 ?_
  refine G.iastC (pc := 11) cx dX10_doDays_11 mw_z (j := 192) rfl (by omega) (by decide) mwZ ?_
  refine G.iconst (pc := 12) cx dX10_doDays_12 (v := 0) (by decide) ?_
  refine G.istore_n (pc := 13) cx dX10_doDays_13 rfl (by decide) rfl ?_
  have L14_1 : ∀ (f k14 : Nat), N - k14 < f → k14 ≤ N → G K p9 l e9 (rmL 2 0 0) s9 m9 a9 b9 t9 c9 (MQ b9 (QCt K (some (.int (z 192 + m))) (mw K o (zDayTo z m N) r V) sz) a9 s9 0 0 (kA K)) 4 (mw K o (zDayTo z m k14) r V) sz 0 0 14 [(0, .ref o), (1, .int m), (2, .int (nI k14))] [] := by
    intro f
    induction f with
    | zero => intro k14 h9; omega
    | succ f ih14 =>
      intro k14 h914 h814
      refine G.iload_n (pc := 14) cx dX10_doDays_14 rfl 2 rfl ?_
      refine G.aload_n (pc := 15) cx dX10_doDays_15 rfl 0 rfl ?_
      refine G.getM (pc := 16) cx dX10_doDays_16 0 wm_fl_X10_7 (by decide) rfl ?_
      refine G.sipush (pc := 19) cx dX10_doDays_19 (v := 194) (by decide) ?_
      refine G.ialdV (pc := 22) cx dX10_doDays_22 mw_z (j := 194) rfl (by omega) (by decide) ((cut_at (by omega)).trans (hF _ (by omega))) ?_
      refine G.icmp_geN (pc := 23) cx k14 N (by omega) (by omega) dX10_doDays_23 (tgt := 67) (by decide) (fun cq23 => ?_) (fun cq23 => ?_)
      · skip
        have ex14 : k14 = N := by omega
        try rw [ex14]
        refine G.aload_n (pc := 67) cx dX10_doDays_67 rfl 0 rfl ?_
        refine G.getM (pc := 68) cx dX10_doDays_68 0 wm_fl_X10_7 (by decide) rfl ?_
        refine G.sipush (pc := 71) cx dX10_doDays_71 (v := 192) (by decide) ?_
        refine G.ialdV (pc := 74) cx dX10_doDays_74 mw_z (j := 192) rfl (by omega) (by decide) (cut_at (by omega)) ?_
        refine G.iret (pc := 75) cx rfl dX10_doDays_75 ?_ ?_ rfl
        · refine congrArg (fun x => some (Value.int x)) ?_
          (try clear L14_1); (try clear ih14); (try clear hin9); (try clear cx); exact (zDayTo_192 z m N h16).symm
        · rfl
      · skip
        refine G.aload_n (pc := 26) cx dX10_doDays_26 rfl 0 rfl ?_
        refine G.iload_n (pc := 27) cx dX10_doDays_27 rfl 2 rfl ?_
        refine G.callV0 (pc := 28) (rest := []) (st1 := [.int (b2 ((zDayTo z m k14) (10 * k14 + 2) = 2))]) cx (c_X10_isGone l K sz o (zDayTo z m k14) r V k14 (by omega)) ok_X10_isGone dX10_doDays_28 wm_ml_X10_42 rfl mw_m rfl rfl (Nat.le_of_ble_eq_true rfl) ⟨Nat.le_of_ble_eq_true rfl, Nat.le_of_ble_eq_true rfl⟩ rfl ?_
        refine G.if_neB (pc := 31) cx dX10_doDays_31 (tgt := 61) (by decide) (fun cq31 => ?_) (fun cq31 => ?_)
        · skip
          refine G.iinc (pc := 61) cx dX10_doDays_61 (v := nI (k14 + 1)) (k := 2) rfl (nI_add k14 1) (by decide) rfl ?_
          refine G.goto (pc := 64) cx dX10_doDays_64 (tgt := 14) (by decide) ?_
          refine G.cast (V' := (mw K o (zDayTo z m (k14 + 1)) r V)) (congrArg (fun q9 => mw K o q9 r V) (by simp [zDayTo, *])) ?_
          refine G.castL (lv' := [(0, .ref o), (1, .int m), (2, .int (nI (k14 + 1)))]) [1, 2, 0] rfl ?_
          exact ih14 (k14 + 1) (by omega) (by omega)
        · skip
          refine G.aload_n (pc := 34) cx dX10_doDays_34 rfl 0 rfl ?_
          refine G.callV0 (pc := 35) (rest := []) (st1 := [.int (b2 ((zDayTo z m k14) 191 = 1))]) cx (c_X10_isAtSea l K sz o (zDayTo z m k14) r V) ok_X10_isAtSea dX10_doDays_35 wm_ml_X10_65 rfl mw_m rfl rfl (Nat.le_of_ble_eq_true rfl) ⟨Nat.le_of_ble_eq_true rfl, Nat.le_of_ble_eq_true rfl⟩ rfl ?_
          refine G.if_eqB (pc := 38) cx dX10_doDays_38 (tgt := 45) (by decide) (fun cq38 => ?_) (fun cq38 => ?_)
          · skip
            refine G.iconst (pc := 45) cx dX10_doDays_45 (v := 4) (by decide) ?_
            refine G.istore_n (pc := 46) cx dX10_doDays_46 rfl (by decide) rfl ?_
            refine G.aload_n (pc := 47) cx dX10_doDays_47 rfl 1 rfl ?_
            refine G.iload_n (pc := 48) cx dX10_doDays_48 rfl 3 rfl ?_
            refine G.iload_n (pc := 49) cx dX10_doDays_49 rfl 0 rfl ?_
            refine G.aload_n (pc := 50) cx dX10_doDays_50 rfl 1 rfl ?_
            refine G.iload_n (pc := 51) cx dX10_doDays_51 rfl 3 rfl ?_
            refine G.iload_n (pc := 52) cx dX10_doDays_52 rfl 0 rfl ?_
            refine G.callV0 (pc := 53) (rest := [.int 4, .int (nI k14), .ref o]) (st1 := [.int ((zDayTo z m k14) (10 * k14 + 4)), .int 4, .int (nI k14), .ref o]) cx (c_X10_of l K sz o (zDayTo z m k14) r V k14 4 (by omega)) ok_X10_of dX10_doDays_53 wm_ml_X10_29 rfl mw_m rfl rfl (Nat.le_of_ble_eq_true rfl) ⟨Nat.le_of_ble_eq_true rfl, Nat.le_of_ble_eq_true rfl⟩ rfl ?_
            refine G.iload_n (pc := 56) cx dX10_doDays_56 rfl 2 rfl ?_
            refine G.iadd (pc := 57) cx dX10_doDays_57 ?_
            refine G.callV0 (pc := 58) (rest := []) (st1 := []) cx (c_X10_put l K sz o (zDayTo z m k14) r V k14 4 (((zDayTo z m k14) (10 * k14 + 4)) + m) (by omega)) ok_X10_put dX10_doDays_58 wm_ml_X10_53 rfl mw_m rfl rfl (Nat.le_of_ble_eq_true rfl) ⟨Nat.le_of_ble_eq_true rfl, Nat.le_of_ble_eq_true rfl⟩ rfl ?_
            refine G.iinc (pc := 61) cx dX10_doDays_61 (v := nI (k14 + 1)) (k := 3) rfl (nI_add k14 1) (by decide) rfl ?_
            refine G.goto (pc := 64) cx dX10_doDays_64 (tgt := 14) (by decide) ?_
            refine G.cast (V' := (mw K o (zDayTo z m (k14 + 1)) r V)) (congrArg (fun q9 => mw K o q9 r V) (by simp [zDayTo, *])) ?_
            refine G.castL (lv' := [(0, .ref o), (1, .int m), (2, .int (nI (k14 + 1)))]) [2, 3, 0] rfl ?_
            exact ih14 (k14 + 1) (by omega) (by omega)
          · skip
            refine G.iconst (pc := 41) cx dX10_doDays_41 (v := 3) (by decide) ?_
            refine G.goto (pc := 42) cx dX10_doDays_42 (tgt := 46) (by decide) ?_
            refine G.istore_n (pc := 46) cx dX10_doDays_46 rfl (by decide) rfl ?_
            refine G.aload_n (pc := 47) cx dX10_doDays_47 rfl 1 rfl ?_
            refine G.iload_n (pc := 48) cx dX10_doDays_48 rfl 3 rfl ?_
            refine G.iload_n (pc := 49) cx dX10_doDays_49 rfl 0 rfl ?_
            refine G.aload_n (pc := 50) cx dX10_doDays_50 rfl 1 rfl ?_
            refine G.iload_n (pc := 51) cx dX10_doDays_51 rfl 3 rfl ?_
            refine G.iload_n (pc := 52) cx dX10_doDays_52 rfl 0 rfl ?_
            refine G.callV0 (pc := 53) (rest := [.int 3, .int (nI k14), .ref o]) (st1 := [.int ((zDayTo z m k14) (10 * k14 + 3)), .int 3, .int (nI k14), .ref o]) cx (c_X10_of l K sz o (zDayTo z m k14) r V k14 3 (by omega)) ok_X10_of dX10_doDays_53 wm_ml_X10_29 rfl mw_m rfl rfl (Nat.le_of_ble_eq_true rfl) ⟨Nat.le_of_ble_eq_true rfl, Nat.le_of_ble_eq_true rfl⟩ rfl ?_
            refine G.iload_n (pc := 56) cx dX10_doDays_56 rfl 2 rfl ?_
            refine G.iadd (pc := 57) cx dX10_doDays_57 ?_
            refine G.callV0 (pc := 58) (rest := []) (st1 := []) cx (c_X10_put l K sz o (zDayTo z m k14) r V k14 3 (((zDayTo z m k14) (10 * k14 + 3)) + m) (by omega)) ok_X10_put dX10_doDays_58 wm_ml_X10_53 rfl mw_m rfl rfl (Nat.le_of_ble_eq_true rfl) ⟨Nat.le_of_ble_eq_true rfl, Nat.le_of_ble_eq_true rfl⟩ rfl ?_
            refine G.iinc (pc := 61) cx dX10_doDays_61 (v := nI (k14 + 1)) (k := 3) rfl (nI_add k14 1) (by decide) rfl ?_
            refine G.goto (pc := 64) cx dX10_doDays_64 (tgt := 14) (by decide) ?_
            refine G.cast (V' := (mw K o (zDayTo z m (k14 + 1)) r V)) (congrArg (fun q9 => mw K o q9 r V) (by simp [zDayTo, *])) ?_
            refine G.castL (lv' := [(0, .ref o), (1, .int m), (2, .int (nI (k14 + 1)))]) [2, 3, 0] rfl ?_
            exact ih14 (k14 + 1) (by omega) (by omega)
  refine G.cast (V' := (mw K o (zDayTo z m 0) r V)) (congrArg (fun q9 => mw K o q9 r V) (by rfl)) ?_
  refine G.castL (lv' := [(0, .ref o), (1, .int m), (2, .int 0)]) [1, 2, 0] rfl ?_
  refine G.lv0 (lv2 := [(0, .ref o), (1, .int m), (2, .int (nI 0))]) (congrArg (fun q9 => ([(0, .ref o), (1, .int m), (2, .int q9)] : List (Nat × Value))) (show (0 : Int32) = nI 0 from by rfl)) ?_
  exact L14_1 (N + 1) 0 (by omega) (by omega)
set_option maxHeartbeats 4000000 in
set_option maxRecDepth 100000 in
theorem c_X10_days (l : Launch) (K : KT) (sz : Nat) (o : Nat) (z : Zt) (r : Rt) (V : VW) (m : Int32) (N : Nat) (n : Nat) (hN : z 194 = nI N) (h16 : N ≤ 16) (hn : r.2.2.2.2 0 = nI n) (h4 : n ≤ 4) : Ct l K yX10_days cX10_days 3 (some .int) 3 [.ref o, .int m] (mw K o z r V) sz (some (.int (if zNoDays z m < 0 then zNoDays z m else z 192 + m))) (mw K o (if zNoDays z m < 0 then z else zDayTo z m N) (if zNoDays z m < 0 then r else rRec r n z) V) sz 0 0 := by
  refine Ct.ofG (by decide) (Nat.le_of_ble_eq_true rfl) ?_
  intro p9 e9 s9 m9 a9 b9 t9 c9 cx hin9
  refine G.lv0 (lv2 := [(0, .ref o), (1, .int m)]) rfl ?_
  refine G.aload_n (pc := 0) cx dX10_days_0 rfl 0 rfl ?_
  refine G.iload_n (pc := 1) cx dX10_days_1 rfl 1 rfl ?_
  refine G.callV0 (pc := 2) (rest := []) (st1 := [.int (zNoDays z m)]) cx (c_X10_noDays l K sz o z r V m) ok_X10_noDays dX10_days_2 wm_ml_X10_166 rfl mw_m rfl rfl (Nat.le_of_ble_eq_true rfl) ⟨Nat.le_of_ble_eq_true rfl, Nat.le_of_ble_eq_true rfl⟩ rfl ?_
  refine G.istore_n (pc := 5) cx dX10_days_5 rfl (by decide) rfl ?_
  refine G.iload_n (pc := 6) cx dX10_days_6 rfl 0 rfl ?_
  refine G.if_ge (pc := 7) cx dX10_days_7 (tgt := 12) (by decide) (fun cq7 => ?_) (fun cq7 => ?_)
  · skip
    refine G.aload_n (pc := 12) cx dX10_days_12 rfl 1 rfl ?_
    refine G.aload_n (pc := 13) cx dX10_days_13 rfl 1 rfl ?_
    refine G.getM (pc := 14) cx dX10_days_14 0 wm_fl_X10_7 (by decide) rfl ?_
    refine G.callV0 (pc := 17) (rest := []) (st1 := []) cx (c_X10_record l K sz o z r V n (by first | assumption | simp [*]) (by omega)) ok_X10_record dX10_days_17 wm_ml_X10_76 rfl mw_m rfl rfl (Nat.le_of_ble_eq_true rfl) ⟨Nat.le_of_ble_eq_true rfl, Nat.le_of_ble_eq_true rfl⟩ rfl ?_
    refine G.aload_n (pc := 20) cx dX10_days_20 rfl 1 rfl ?_
    refine G.iload_n (pc := 21) cx dX10_days_21 rfl 2 rfl ?_
    refine G.callV0 (pc := 22) (rest := []) (st1 := [.int (z 192 + m)]) cx (c_X10_doDays l K sz o z (rRec r n z) V m N (by assumption) (by omega)) ok_X10_doDays dX10_days_22 wm_ml_X10_169 rfl mw_m rfl rfl (Nat.le_of_ble_eq_true rfl) ⟨Nat.le_of_ble_eq_true rfl, Nat.le_of_ble_eq_true rfl⟩ rfl ?_
    refine G.iret (pc := 25) cx rfl dX10_days_25 ?_ ?_ rfl
    · refine congrArg (fun x => some (Value.int x)) ?_
      (try clear hin9); (try clear cx); first | (rw [if_pos (Int32.not_le.mp cq7)]; done) | (rw [if_neg (Int32.not_lt.mpr cq7)]; done) | (rw [if_neg (Int32.not_lt.mpr cq7)]; rfl)
    · show _ = _
      (try clear hin9); (try clear cx); first | (rw [if_pos (Int32.not_le.mp cq7), if_pos (Int32.not_le.mp cq7)]; done) | (rw [if_neg (Int32.not_lt.mpr cq7), if_neg (Int32.not_lt.mpr cq7)]; done) | (rw [if_neg (Int32.not_lt.mpr cq7), if_neg (Int32.not_lt.mpr cq7)]; rfl)
  · skip
    refine G.iload_n (pc := 10) cx dX10_days_10 rfl 0 rfl ?_
    refine G.iret (pc := 11) cx rfl dX10_days_11 ?_ ?_ rfl
    · refine congrArg (fun x => some (Value.int x)) ?_
      (try clear hin9); (try clear cx); first | (rw [if_pos (Int32.not_le.mp cq7)]; done) | (rw [if_neg (Int32.not_lt.mpr cq7)]; done) | (rw [if_neg (Int32.not_lt.mpr cq7)]; rfl)
    · show _ = _
      (try clear hin9); (try clear cx); first | (rw [if_pos (Int32.not_le.mp cq7), if_pos (Int32.not_le.mp cq7)]; done) | (rw [if_neg (Int32.not_lt.mpr cq7), if_neg (Int32.not_lt.mpr cq7)]; done) | (rw [if_neg (Int32.not_lt.mpr cq7), if_neg (Int32.not_lt.mpr cq7)]; rfl)
set_option maxHeartbeats 4000000 in
set_option maxRecDepth 100000 in
theorem c_X10_dismiss (l : Launch) (K : KT) (sz : Nat) (o : Nat) (z : Zt) (r : Rt) (V : VW) (a : Int32) (N : Nat) (n : Nat) (hN : z 194 = nI N) (h16 : N ≤ 16) (hn : r.2.2.2.2 0 = nI n) (h4 : n ≤ 4) : Ct l K yX10_dismiss cX10_dismiss 3 (some .int) 3 [.ref o, .int a] (mw K o z r V) sz (some (.int (if zNoDis z a < 0 then zNoDis z a else zBal z (a).toNatClampNeg))) (mw K o (if zNoDis z a < 0 then z else zDoDis z (a).toNatClampNeg) (if zNoDis z a < 0 then r else rRec r n z) V) sz 0 0 := by
  refine Ct.ofG (by decide) (Nat.le_of_ble_eq_true rfl) ?_
  intro p9 e9 s9 m9 a9 b9 t9 c9 cx hin9
  refine G.lv0 (lv2 := [(0, .ref o), (1, .int a)]) rfl ?_
  refine G.aload_n (pc := 0) cx dX10_dismiss_0 rfl 0 rfl ?_
  refine G.iload_n (pc := 1) cx dX10_dismiss_1 rfl 1 rfl ?_
  refine G.callV0 (pc := 2) (rest := []) (st1 := [.int (b2 (0 ≤ a ∧ a ≤ z 194 - 1))]) cx (c_X10_isSailor l K sz o z r V a) ok_X10_isSailor dX10_dismiss_2 wm_ml_X10_98 rfl mw_m rfl rfl (Nat.le_of_ble_eq_true rfl) ⟨Nat.le_of_ble_eq_true rfl, Nat.le_of_ble_eq_true rfl⟩ rfl ?_
  refine G.if_neB (pc := 5) cx dX10_dismiss_5 (tgt := 11) (by decide) (fun cq5 => ?_) (fun cq5 => ?_)
  · skip
    obtain ⟨k, hk, rfl⟩ := sail_of hN h16 cq5
    have tk : (nI k).toNatClampNeg = k := nI_clamp (by omega)
    refine G.aload_n (pc := 11) cx dX10_dismiss_11 rfl 0 rfl ?_
    refine G.callV0 (pc := 12) (rest := []) (st1 := [.int (b2 (z 191 = 1))]) cx (c_X10_isAtSea l K sz o z r V) ok_X10_isAtSea dX10_dismiss_12 wm_ml_X10_65 rfl mw_m rfl rfl (Nat.le_of_ble_eq_true rfl) ⟨Nat.le_of_ble_eq_true rfl, Nat.le_of_ble_eq_true rfl⟩ rfl ?_
    refine G.if_neB (pc := 15) cx dX10_dismiss_15 (tgt := 34) (by decide) (fun cq15 => ?_) (fun cq15 => ?_)
    · skip
      refine G.ldc (pc := 34) cx dX10_dismiss_34 (v := (-1000002)) wm_ct_X10_37 ?_
      refine G.iret (pc := 36) cx rfl dX10_dismiss_36 ?_ ?_ rfl
      · refine congrArg (fun x => some (Value.int x)) ?_
        (try clear hin9); (try clear cx); rw [show zNoDis z (nI k) = -1000002 from by unfold zNoDis; rw [tk, if_neg (fun q => q cq5)]; first | exact if_pos (Or.inl cq15) | exact if_pos (Or.inr (Or.inl cq23)) | exact if_pos (Or.inr (Or.inr (Int32.not_le.mp cq31)))]; rfl
      · show _ = _
        (try clear hin9); (try clear cx); rw [show zNoDis z (nI k) = -1000002 from by unfold zNoDis; rw [tk, if_neg (fun q => q cq5)]; first | exact if_pos (Or.inl cq15) | exact if_pos (Or.inr (Or.inl cq23)) | exact if_pos (Or.inr (Or.inr (Int32.not_le.mp cq31)))]; rfl
    · skip
      refine G.aload_n (pc := 18) cx dX10_dismiss_18 rfl 0 rfl ?_
      refine G.iload_n (pc := 19) cx dX10_dismiss_19 rfl 1 rfl ?_
      refine G.callV0 (pc := 20) (rest := []) (st1 := [.int (b2 (z (10 * k + 2) = 2))]) cx (c_X10_isGone l K sz o z r V k (by omega)) ok_X10_isGone dX10_dismiss_20 wm_ml_X10_42 rfl mw_m rfl rfl (Nat.le_of_ble_eq_true rfl) ⟨Nat.le_of_ble_eq_true rfl, Nat.le_of_ble_eq_true rfl⟩ rfl ?_
      refine G.if_neB (pc := 23) cx dX10_dismiss_23 (tgt := 34) (by decide) (fun cq23 => ?_) (fun cq23 => ?_)
      · skip
        refine G.ldc (pc := 34) cx dX10_dismiss_34 (v := (-1000002)) wm_ct_X10_37 ?_
        refine G.iret (pc := 36) cx rfl dX10_dismiss_36 ?_ ?_ rfl
        · refine congrArg (fun x => some (Value.int x)) ?_
          (try clear hin9); (try clear cx); rw [show zNoDis z (nI k) = -1000002 from by unfold zNoDis; rw [tk, if_neg (fun q => q cq5)]; first | exact if_pos (Or.inl cq15) | exact if_pos (Or.inr (Or.inl cq23)) | exact if_pos (Or.inr (Or.inr (Int32.not_le.mp cq31)))]; rfl
        · show _ = _
          (try clear hin9); (try clear cx); rw [show zNoDis z (nI k) = -1000002 from by unfold zNoDis; rw [tk, if_neg (fun q => q cq5)]; first | exact if_pos (Or.inl cq15) | exact if_pos (Or.inr (Or.inl cq23)) | exact if_pos (Or.inr (Or.inr (Int32.not_le.mp cq31)))]; rfl
      · skip
        refine G.aload_n (pc := 26) cx dX10_dismiss_26 rfl 0 rfl ?_
        refine G.iload_n (pc := 27) cx dX10_dismiss_27 rfl 1 rfl ?_
        refine G.callV0 (pc := 28) (rest := []) (st1 := [.int (zBal z k)]) cx (c_X10_balance l K sz o z r V k (by omega)) ok_X10_balance dX10_dismiss_28 wm_ml_X10_95 rfl mw_m rfl rfl (Nat.le_of_ble_eq_true rfl) ⟨Nat.le_of_ble_eq_true rfl, Nat.le_of_ble_eq_true rfl⟩ rfl ?_
        refine G.if_ge (pc := 31) cx dX10_dismiss_31 (tgt := 37) (by decide) (fun cq31 => ?_) (fun cq31 => ?_)
        · skip
          refine G.aload_n (pc := 37) cx dX10_dismiss_37 rfl 0 rfl ?_
          refine G.aload_n (pc := 38) cx dX10_dismiss_38 rfl 0 rfl ?_
          refine G.getM (pc := 39) cx dX10_dismiss_39 0 wm_fl_X10_7 (by decide) rfl ?_
          refine G.callV0 (pc := 42) (rest := []) (st1 := []) cx (c_X10_record l K sz o z r V n (by first | assumption | simp [*]) (by omega)) ok_X10_record dX10_dismiss_42 wm_ml_X10_76 rfl mw_m rfl rfl (Nat.le_of_ble_eq_true rfl) ⟨Nat.le_of_ble_eq_true rfl, Nat.le_of_ble_eq_true rfl⟩ rfl ?_
          refine G.aload_n (pc := 45) cx dX10_dismiss_45 rfl 0 rfl ?_
          refine G.iload_n (pc := 46) cx dX10_dismiss_46 rfl 1 rfl ?_
          refine G.callV0 (pc := 47) (rest := []) (st1 := [.int (zBal z k)]) cx (c_X10_balance l K sz o z (rRec r n z) V k (by omega)) ok_X10_balance dX10_dismiss_47 wm_ml_X10_95 rfl mw_m rfl rfl (Nat.le_of_ble_eq_true rfl) ⟨Nat.le_of_ble_eq_true rfl, Nat.le_of_ble_eq_true rfl⟩ rfl ?_
          refine G.istore_n (pc := 50) cx dX10_dismiss_50 rfl (by decide) rfl ?_
          refine G.aload_n (pc := 51) cx dX10_dismiss_51 rfl 1 rfl ?_
          refine G.iload_n (pc := 52) cx dX10_dismiss_52 rfl 2 rfl ?_
          refine G.iload_n (pc := 53) cx dX10_dismiss_53 rfl 0 rfl ?_
          refine G.callV0 (pc := 54) (rest := []) (st1 := []) cx (c_X10_pay l K sz o z (rRec r n z) V k (zBal z k) (by omega)) ok_X10_pay dX10_dismiss_54 wm_ml_X10_172 rfl mw_m rfl rfl (Nat.le_of_ble_eq_true rfl) ⟨Nat.le_of_ble_eq_true rfl, Nat.le_of_ble_eq_true rfl⟩ rfl ?_
          refine G.aload_n (pc := 57) cx dX10_dismiss_57 rfl 1 rfl ?_
          refine G.iload_n (pc := 58) cx dX10_dismiss_58 rfl 2 rfl ?_
          refine G.iconst (pc := 59) cx dX10_dismiss_59 (v := 2) (by decide) ?_
          refine G.iconst (pc := 60) cx dX10_dismiss_60 (v := 2) (by decide) ?_
          refine G.callV0 (pc := 61) (rest := []) (st1 := []) cx (c_X10_put l K sz o (zPay z k (zBal z k)) (rRec r n z) V k 2 2 (by omega)) ok_X10_put dX10_dismiss_61 wm_ml_X10_53 rfl mw_m rfl rfl (Nat.le_of_ble_eq_true rfl) ⟨Nat.le_of_ble_eq_true rfl, Nat.le_of_ble_eq_true rfl⟩ rfl ?_
          refine G.aload_n (pc := 64) cx dX10_dismiss_64 rfl 1 rfl ?_
          refine G.iload_n (pc := 65) cx dX10_dismiss_65 rfl 2 rfl ?_
          refine G.callV0 (pc := 66) (rest := []) (st1 := []) cx (c_X10_clear l K sz o (upd (zPay z k (zBal z k)) (10 * k + 2) 2) (rRec r n z) V k (by omega)) ok_X10_clear dX10_dismiss_66 wm_ml_X10_70 rfl mw_m rfl rfl (Nat.le_of_ble_eq_true rfl) ⟨Nat.le_of_ble_eq_true rfl, Nat.le_of_ble_eq_true rfl⟩ rfl ?_
          refine G.iload_n (pc := 69) cx dX10_dismiss_69 rfl 0 rfl ?_
          refine G.iret (pc := 70) cx rfl dX10_dismiss_70 ?_ ?_ rfl
          · refine congrArg (fun x => some (Value.int x)) ?_
            (try clear hin9); (try clear cx); rw [show zNoDis z (nI k) = 0 from by unfold zNoDis; rw [tk, if_neg (fun q => q cq5), if_neg (fun q => q.elim cq15 (fun q => q.elim cq23 (Int32.not_lt.mpr cq31)))]]; rw [tk]; rfl
          · show _ = _
            (try clear hin9); (try clear cx); rw [show zNoDis z (nI k) = 0 from by unfold zNoDis; rw [tk, if_neg (fun q => q cq5), if_neg (fun q => q.elim cq15 (fun q => q.elim cq23 (Int32.not_lt.mpr cq31)))]]; rw [tk]; rfl
        · skip
          refine G.ldc (pc := 34) cx dX10_dismiss_34 (v := (-1000002)) wm_ct_X10_37 ?_
          refine G.iret (pc := 36) cx rfl dX10_dismiss_36 ?_ ?_ rfl
          · refine congrArg (fun x => some (Value.int x)) ?_
            (try clear hin9); (try clear cx); rw [show zNoDis z (nI k) = -1000002 from by unfold zNoDis; rw [tk, if_neg (fun q => q cq5)]; first | exact if_pos (Or.inl cq15) | exact if_pos (Or.inr (Or.inl cq23)) | exact if_pos (Or.inr (Or.inr (Int32.not_le.mp cq31)))]; rfl
          · show _ = _
            (try clear hin9); (try clear cx); rw [show zNoDis z (nI k) = -1000002 from by unfold zNoDis; rw [tk, if_neg (fun q => q cq5)]; first | exact if_pos (Or.inl cq15) | exact if_pos (Or.inr (Or.inl cq23)) | exact if_pos (Or.inr (Or.inr (Int32.not_le.mp cq31)))]; rfl
  · skip
    refine G.ldc (pc := 8) cx dX10_dismiss_8 (v := (-1000001)) wm_ct_X10_64 ?_
    refine G.iret (pc := 10) cx rfl dX10_dismiss_10 ?_ ?_ rfl
    · refine congrArg (fun x => some (Value.int x)) ?_
      (try clear hin9); (try clear cx); rw [show zNoDis z a = -1000001 from by unfold zNoDis; exact if_pos cq5]; rfl
    · show _ = _
      (try clear hin9); (try clear cx); rw [show zNoDis z a = -1000001 from by unfold zNoDis; exact if_pos cq5]; rfl
set_option maxHeartbeats 4000000 in
set_option maxRecDepth 100000 in
theorem c_X10_noPayOff (l : Launch) (K : KT) (sz : Nat) (o : Nat) (z : Zt) (r : Rt) (V : VW)  : Ct l K yX10_noPayOff cX10_noPayOff 1 (some .int) 1 [.ref o] (mw K o z r V) sz (some (.int (zNoPO z))) (mw K o z r V) sz 0 0 := by
  refine Ct.ofG (by decide) (Nat.le_of_ble_eq_true rfl) ?_
  intro p9 e9 s9 m9 a9 b9 t9 c9 cx hin9
  refine G.lv0 (lv2 := [(0, .ref o)]) rfl ?_
  refine G.aload_n (pc := 0) cx dX10_noPayOff_0 rfl 0 rfl ?_
  refine G.callV0 (pc := 1) (rest := []) (st1 := [.int (b2 (z 191 = 1))]) cx (c_X10_isAtSea l K sz o z r V) ok_X10_isAtSea dX10_noPayOff_1 wm_ml_X10_65 rfl mw_m rfl rfl (Nat.le_of_ble_eq_true rfl) ⟨Nat.le_of_ble_eq_true rfl, Nat.le_of_ble_eq_true rfl⟩ rfl ?_
  refine G.if_neB (pc := 4) cx dX10_noPayOff_4 (tgt := 18) (by decide) (fun cq4 => ?_) (fun cq4 => ?_)
  · skip
    refine G.ldc (pc := 18) cx dX10_noPayOff_18 (v := (-1000002)) wm_ct_X10_37 ?_
    refine G.goto (pc := 20) cx dX10_noPayOff_20 (tgt := 24) (by decide) ?_
    refine G.iret (pc := 24) cx rfl dX10_noPayOff_24 ?_ ?_ rfl
    · refine congrArg (fun x => some (Value.int x)) ?_
      (try clear hin9); (try clear cx); first | rfl | (refine b2_t ?_; grind) | (refine b2_f ?_; grind) | (simp [*, zNoPO]; done) | (simp_all [zNoPO]; done) | grind [zNoPO]
    · rfl
  · skip
    refine G.aload_n (pc := 7) cx dX10_noPayOff_7 rfl 0 rfl ?_
    refine G.getM (pc := 8) cx dX10_noPayOff_8 0 wm_fl_X10_7 (by decide) rfl ?_
    refine G.sipush (pc := 11) cx dX10_noPayOff_11 (v := 192) (by decide) ?_
    refine G.ialdV (pc := 14) cx dX10_noPayOff_14 mw_z (j := 192) rfl (by omega) (by decide) (cut_at (by omega)) ?_
    refine G.if_ne (pc := 15) cx dX10_noPayOff_15 (tgt := 23) (by decide) (fun cq15 => ?_) (fun cq15 => ?_)
    · skip
      refine G.iconst (pc := 23) cx dX10_noPayOff_23 (v := 0) (by decide) ?_
      refine G.iret (pc := 24) cx rfl dX10_noPayOff_24 ?_ ?_ rfl
      · refine congrArg (fun x => some (Value.int x)) ?_
        (try clear hin9); (try clear cx); first | rfl | (refine b2_t ?_; grind) | (refine b2_f ?_; grind) | (simp [*, zNoPO]; done) | (simp_all [zNoPO]; done) | grind [zNoPO]
      · rfl
    · skip
      refine G.ldc (pc := 18) cx dX10_noPayOff_18 (v := (-1000002)) wm_ct_X10_37 ?_
      refine G.goto (pc := 20) cx dX10_noPayOff_20 (tgt := 24) (by decide) ?_
      refine G.iret (pc := 24) cx rfl dX10_noPayOff_24 ?_ ?_ rfl
      · refine congrArg (fun x => some (Value.int x)) ?_
        (try clear hin9); (try clear cx); first | rfl | (refine b2_t ?_; grind) | (refine b2_f ?_; grind) | (simp [*, zNoPO]; done) | (simp_all [zNoPO]; done) | grind [zNoPO]
      · rfl
set_option maxHeartbeats 4000000 in
set_option maxRecDepth 100000 in
theorem c_X10_doPayOff (l : Launch) (K : KT) (sz : Nat) (o : Nat) (z : Zt) (r : Rt) (V : VW) (N : Nat) (hN : z 194 = nI N) (h16 : N ≤ 16) : Ct l K yX10_doPayOff cX10_doPayOff 4 (some .int) 3 [.ref o] (mw K o z r V) sz (some (.int (zPOSum z N))) (mw K o (zDoPO z N) r V) sz 0 0 := by
  refine Ct.ofG (by decide) (Nat.le_of_ble_eq_true rfl) ?_
  intro p9 e9 s9 m9 a9 b9 t9 c9 cx hin9
  refine G.lv0 (lv2 := [(0, .ref o)]) rfl ?_
  have hF : ∀ k, k ≤ N → zPOTo z k 194 = nI N := fun k hk => (zPOTo_o z (by omega) (by omega) (by omega) (by omega) k (fun q hq => by omega)).trans hN
  refine G.iconst (pc := 0) cx dX10_doPayOff_0 (v := 0) (by decide) ?_
  refine G.istore_n (pc := 1) cx dX10_doPayOff_1 rfl (by decide) rfl ?_
  refine G.iconst (pc := 2) cx dX10_doPayOff_2 (v := 0) (by decide) ?_
  refine G.istore_n (pc := 3) cx dX10_doPayOff_3 rfl (by decide) rfl ?_
  have L4_1 : ∀ (f k4 : Nat), N - k4 < f → k4 ≤ N → G K p9 l e9 (rmL 3 0 0) s9 m9 a9 b9 t9 c9 (MQ b9 (QCt K (some (.int (zPOSum z N))) (mw K o (zDoPO z N) r V) sz) a9 s9 0 0 (kA K)) 4 (mw K o (zPOTo z k4) r V) sz 0 0 4 [(0, .ref o), (1, .int (zPOSum z k4)), (2, .int (nI k4))] [] := by
    intro f
    induction f with
    | zero => intro k4 h9; omega
    | succ f ih4 =>
      intro k4 h94 h84
      refine G.iload_n (pc := 4) cx dX10_doPayOff_4 rfl 2 rfl ?_
      refine G.aload_n (pc := 5) cx dX10_doPayOff_5 rfl 0 rfl ?_
      refine G.getM (pc := 6) cx dX10_doPayOff_6 0 wm_fl_X10_7 (by decide) rfl ?_
      refine G.sipush (pc := 9) cx dX10_doPayOff_9 (v := 194) (by decide) ?_
      refine G.ialdV (pc := 12) cx dX10_doPayOff_12 mw_z (j := 194) rfl (by omega) (by decide) ((cut_at (by omega)).trans (hF _ (by omega))) ?_
      refine G.icmp_geN (pc := 13) cx k4 N (by omega) (by omega) dX10_doPayOff_13 (tgt := 71) (by decide) (fun cq13 => ?_) (fun cq13 => ?_)
      · skip
        have ex4 : k4 = N := by omega
        try rw [ex4]
        refine G.aload_n (pc := 71) cx dX10_doPayOff_71 rfl 0 rfl ?_
        refine G.getM (pc := 72) cx dX10_doPayOff_72 0 wm_fl_X10_7 (by decide) rfl ?_
        refine G.sipush (pc := 75) cx dX10_doPayOff_75 (v := 190) (by decide) ?_
        refine G.dup2 (pc := 78) cx dX10_doPayOff_78 rfl rfl ?_
        refine G.ialdV (pc := 79) cx dX10_doPayOff_79 mw_z (j := 190) rfl (by omega) (by decide) (cut_at (by omega)) ?_
        refine G.iconst (pc := 80) cx dX10_doPayOff_80 (v := 1) (by decide) ?_
        refine G.iadd (pc := 81) cx dX10_doPayOff_81 ?_
        refine G.iastC (pc := 82) cx dX10_doPayOff_82 mw_z (j := 190) rfl (by omega) (by decide) mwZ ?_
        refine G.aload_n (pc := 83) cx dX10_doPayOff_83 rfl 0 rfl ?_
        refine G.getM (pc := 84) cx dX10_doPayOff_84 0 wm_fl_X10_7 (by decide) rfl ?_
        refine G.sipush (pc := 87) cx dX10_doPayOff_87 (v := 192) (by decide) ?_
        refine G.iconst (pc := 90) cx dX10_doPayOff_90 (v := 0) (by decide) ?_
        refine G.iastC (pc := 91) cx dX10_doPayOff_91 mw_z (j := 192) rfl (by omega) (by decide) mwZ ?_
        refine G.iload_n (pc := 92) cx dX10_doPayOff_92 rfl 1 rfl ?_
        refine G.iret (pc := 93) cx rfl dX10_doPayOff_93 ?_ ?_ rfl
        · rfl
        · refine congrArg (fun x => mw K o x r V) ?_
          (try clear L4_1); (try clear ih4); (try clear hin9); (try clear cx); rfl
      · skip
        refine G.aload_n (pc := 16) cx dX10_doPayOff_16 rfl 0 rfl ?_
        refine G.iload_n (pc := 17) cx dX10_doPayOff_17 rfl 2 rfl ?_
        refine G.callV0 (pc := 18) (rest := []) (st1 := [.int (b2 ((zPOTo z k4) (10 * k4 + 2) = 2))]) cx (c_X10_isGone l K sz o (zPOTo z k4) r V k4 (by omega)) ok_X10_isGone dX10_doPayOff_18 wm_ml_X10_42 rfl mw_m rfl rfl (Nat.le_of_ble_eq_true rfl) ⟨Nat.le_of_ble_eq_true rfl, Nat.le_of_ble_eq_true rfl⟩ rfl ?_
        refine G.if_neB (pc := 21) cx dX10_doPayOff_21 (tgt := 65) (by decide) (fun cq21 => ?_) (fun cq21 => ?_)
        · skip
          refine G.iinc (pc := 65) cx dX10_doPayOff_65 (v := nI (k4 + 1)) (k := 2) rfl (nI_add k4 1) (by decide) rfl ?_
          refine G.goto (pc := 68) cx dX10_doPayOff_68 (tgt := 4) (by decide) ?_
          refine G.cast (V' := (mw K o (zPOTo z (k4 + 1)) r V)) (congrArg (fun q9 => mw K o q9 r V) (by first | (simp [zPOTo, zPO1, *]; done) | (simp [zPOSum, *]; done) | (simp_all [zPOTo, zPO1, Int32.not_lt]; done) | (simp_all [zPOSum, Int32.not_lt]; done))) ?_
          refine G.castL (lv' := [(0, .ref o), (1, .int (zPOSum z k4)), (2, .int (nI (k4 + 1)))]) [1, 2, 0] rfl ?_
          refine G.lv0 (lv2 := [(0, .ref o), (1, .int (zPOSum z (k4 + 1))), (2, .int (nI (k4 + 1)))]) (congrArg (fun q9 => ([(0, .ref o), (1, .int q9), (2, .int (nI (k4 + 1)))] : List (Nat × Value))) (show (zPOSum z k4 : Int32) = zPOSum z (k4 + 1) from by first | (simp [zPOTo, zPO1, *]; done) | (simp [zPOSum, *]; done) | (simp_all [zPOTo, zPO1, Int32.not_lt]; done) | (simp_all [zPOSum, Int32.not_lt]; done))) ?_
          exact ih4 (k4 + 1) (by omega) (by omega)
        · skip
          refine G.aload_n (pc := 24) cx dX10_doPayOff_24 rfl 0 rfl ?_
          refine G.iload_n (pc := 25) cx dX10_doPayOff_25 rfl 2 rfl ?_
          refine G.callV0 (pc := 26) (rest := []) (st1 := [.int (zBal (zPOTo z k4) k4)]) cx (c_X10_balance l K sz o (zPOTo z k4) r V k4 (by omega)) ok_X10_balance dX10_doPayOff_26 wm_ml_X10_95 rfl mw_m rfl rfl (Nat.le_of_ble_eq_true rfl) ⟨Nat.le_of_ble_eq_true rfl, Nat.le_of_ble_eq_true rfl⟩ rfl ?_
          refine G.istore_n (pc := 29) cx dX10_doPayOff_29 rfl (by decide) rfl ?_
          refine G.iload_n (pc := 30) cx dX10_doPayOff_30 rfl 0 rfl ?_
          refine G.if_le (pc := 31) cx dX10_doPayOff_31 (tgt := 44) (by decide) (fun cq31 => ?_) (fun cq31 => ?_)
          · skip
            have g31 := Int32.not_lt.mpr cq31
            refine G.aload_n (pc := 44) cx dX10_doPayOff_44 rfl 1 rfl ?_
            refine G.iload_n (pc := 45) cx dX10_doPayOff_45 rfl 3 rfl ?_
            refine G.callV0 (pc := 46) (rest := []) (st1 := []) cx (c_X10_clear l K sz o (zPOTo z k4) r V k4 (by omega)) ok_X10_clear dX10_doPayOff_46 wm_ml_X10_70 rfl mw_m rfl rfl (Nat.le_of_ble_eq_true rfl) ⟨Nat.le_of_ble_eq_true rfl, Nat.le_of_ble_eq_true rfl⟩ rfl ?_
            refine G.aload_n (pc := 49) cx dX10_doPayOff_49 rfl 1 rfl ?_
            refine G.iload_n (pc := 50) cx dX10_doPayOff_50 rfl 3 rfl ?_
            refine G.bipush (pc := 51) cx dX10_doPayOff_51 (v := 8) (by decide) ?_
            refine G.iload_n (pc := 53) cx dX10_doPayOff_53 rfl 0 rfl ?_
            have J62_2 : G K p9 l e9 (rmL 3 0 0) s9 m9 a9 b9 t9 c9 (MQ b9 (QCt K (some (.int (zPOSum z N))) (mw K o (zDoPO z N) r V) sz) a9 s9 0 0 (kA K)) 4 (mw K o (zClear (zPOTo z k4) k4) r V) sz 0 0 62 [(0, .ref o), (1, .int (zPOSum z k4)), (2, .int (nI k4)), (3, .int (zBal (zPOTo z k4) k4))] [.int (if zBal (zPOTo z k4) k4 < 0 then zBal (zPOTo z k4) k4 else 0), .int 8, .int (nI k4), .ref o] := by
              refine G.callV0 (pc := 62) (rest := []) (st1 := []) cx (c_X10_put l K sz o (zClear (zPOTo z k4) k4) r V k4 8 (if zBal (zPOTo z k4) k4 < 0 then zBal (zPOTo z k4) k4 else 0) (by omega)) ok_X10_put dX10_doPayOff_62 wm_ml_X10_53 rfl mw_m rfl rfl (Nat.le_of_ble_eq_true rfl) ⟨Nat.le_of_ble_eq_true rfl, Nat.le_of_ble_eq_true rfl⟩ rfl ?_
              refine G.iinc (pc := 65) cx dX10_doPayOff_65 (v := nI (k4 + 1)) (k := 2) rfl (nI_add k4 1) (by decide) rfl ?_
              refine G.goto (pc := 68) cx dX10_doPayOff_68 (tgt := 4) (by decide) ?_
              refine G.cast (V' := (mw K o (zPOTo z (k4 + 1)) r V)) (congrArg (fun q9 => mw K o q9 r V) (by first | (simp [zPOTo, zPO1, *]; done) | (simp [zPOSum, *]; done) | (simp_all [zPOTo, zPO1, Int32.not_lt]; done) | (simp_all [zPOSum, Int32.not_lt]; done))) ?_
              refine G.castL (lv' := [(0, .ref o), (1, .int (zPOSum z k4)), (2, .int (nI (k4 + 1)))]) [1, 2, 0] rfl ?_
              refine G.lv0 (lv2 := [(0, .ref o), (1, .int (zPOSum z (k4 + 1))), (2, .int (nI (k4 + 1)))]) (congrArg (fun q9 => ([(0, .ref o), (1, .int q9), (2, .int (nI (k4 + 1)))] : List (Nat × Value))) (show (zPOSum z k4 : Int32) = zPOSum z (k4 + 1) from by first | (simp [zPOTo, zPO1, *]; done) | (simp [zPOSum, *]; done) | (simp_all [zPOTo, zPO1, Int32.not_lt]; done) | (simp_all [zPOSum, Int32.not_lt]; done))) ?_
              exact ih4 (k4 + 1) (by omega) (by omega)
            refine G.if_ge (pc := 54) cx dX10_doPayOff_54 (tgt := 61) (by decide) (fun cq54 => ?_) (fun cq54 => ?_)
            · skip
              refine G.iconst (pc := 61) cx dX10_doPayOff_61 (v := 0) (by decide) ?_
              refine G.castS (st' := [.int (if zBal (zPOTo z k4) k4 < 0 then zBal (zPOTo z k4) k4 else 0), .int 8, .int (nI k4), .ref o]) (congrArg (fun q9 => ([.int q9, .int 8, .int (nI k4), .ref o] : List Value)) (show (0 : Int32) = if zBal (zPOTo z k4) k4 < 0 then zBal (zPOTo z k4) k4 else 0 from by (try clear J62_2); (try clear L4_1); (try clear ih4); (try clear hin9); (try clear cx); first | rfl | (refine b2_t ?_; grind) | (refine b2_f ?_; grind) | (simp [*]; done) | (simp_all; done) | grind)) ?_
              refine G.castL (lv' := [(0, .ref o), (1, .int (zPOSum z k4)), (2, .int (nI k4)), (3, .int (zBal (zPOTo z k4) k4))]) [1, 2, 3, 0] rfl ?_
              exact J62_2
            · skip
              refine G.iload_n (pc := 57) cx dX10_doPayOff_57 rfl 0 rfl ?_
              refine G.goto (pc := 58) cx dX10_doPayOff_58 (tgt := 62) (by decide) ?_
              refine G.castS (st' := [.int (if zBal (zPOTo z k4) k4 < 0 then zBal (zPOTo z k4) k4 else 0), .int 8, .int (nI k4), .ref o]) (congrArg (fun q9 => ([.int q9, .int 8, .int (nI k4), .ref o] : List Value)) (show (zBal (zPOTo z k4) k4 : Int32) = if zBal (zPOTo z k4) k4 < 0 then zBal (zPOTo z k4) k4 else 0 from by (try clear J62_2); (try clear L4_1); (try clear ih4); (try clear hin9); (try clear cx); first | rfl | (refine b2_t ?_; grind) | (refine b2_f ?_; grind) | (simp [*]; done) | (simp_all; done) | grind)) ?_
              refine G.castL (lv' := [(0, .ref o), (1, .int (zPOSum z k4)), (2, .int (nI k4)), (3, .int (zBal (zPOTo z k4) k4))]) [1, 2, 3, 0] rfl ?_
              exact J62_2
          · skip
            refine G.aload_n (pc := 34) cx dX10_doPayOff_34 rfl 1 rfl ?_
            refine G.iload_n (pc := 35) cx dX10_doPayOff_35 rfl 3 rfl ?_
            refine G.iload_n (pc := 36) cx dX10_doPayOff_36 rfl 0 rfl ?_
            refine G.callV0 (pc := 37) (rest := []) (st1 := []) cx (c_X10_pay l K sz o (zPOTo z k4) r V k4 (zBal (zPOTo z k4) k4) (by omega)) ok_X10_pay dX10_doPayOff_37 wm_ml_X10_172 rfl mw_m rfl rfl (Nat.le_of_ble_eq_true rfl) ⟨Nat.le_of_ble_eq_true rfl, Nat.le_of_ble_eq_true rfl⟩ rfl ?_
            refine G.iload_n (pc := 40) cx dX10_doPayOff_40 rfl 2 rfl ?_
            refine G.iload_n (pc := 41) cx dX10_doPayOff_41 rfl 0 rfl ?_
            refine G.iadd (pc := 42) cx dX10_doPayOff_42 ?_
            refine G.istore_n (pc := 43) cx dX10_doPayOff_43 rfl (by decide) rfl ?_
            refine G.aload_n (pc := 44) cx dX10_doPayOff_44 rfl 2 rfl ?_
            refine G.iload_n (pc := 45) cx dX10_doPayOff_45 rfl 3 rfl ?_
            refine G.callV0 (pc := 46) (rest := []) (st1 := []) cx (c_X10_clear l K sz o (zPay (zPOTo z k4) k4 (zBal (zPOTo z k4) k4)) r V k4 (by omega)) ok_X10_clear dX10_doPayOff_46 wm_ml_X10_70 rfl mw_m rfl rfl (Nat.le_of_ble_eq_true rfl) ⟨Nat.le_of_ble_eq_true rfl, Nat.le_of_ble_eq_true rfl⟩ rfl ?_
            refine G.aload_n (pc := 49) cx dX10_doPayOff_49 rfl 2 rfl ?_
            refine G.iload_n (pc := 50) cx dX10_doPayOff_50 rfl 3 rfl ?_
            refine G.bipush (pc := 51) cx dX10_doPayOff_51 (v := 8) (by decide) ?_
            refine G.iload_n (pc := 53) cx dX10_doPayOff_53 rfl 1 rfl ?_
            have J62_3 : G K p9 l e9 (rmL 3 0 0) s9 m9 a9 b9 t9 c9 (MQ b9 (QCt K (some (.int (zPOSum z N))) (mw K o (zDoPO z N) r V) sz) a9 s9 0 0 (kA K)) 4 (mw K o (zClear (zPay (zPOTo z k4) k4 (zBal (zPOTo z k4) k4)) k4) r V) sz 0 0 62 [(0, .ref o), (1, .int ((zPOSum z k4) + (zBal (zPOTo z k4) k4))), (2, .int (nI k4)), (3, .int (zBal (zPOTo z k4) k4))] [.int (if zBal (zPOTo z k4) k4 < 0 then zBal (zPOTo z k4) k4 else 0), .int 8, .int (nI k4), .ref o] := by
              refine G.callV0 (pc := 62) (rest := []) (st1 := []) cx (c_X10_put l K sz o (zClear (zPay (zPOTo z k4) k4 (zBal (zPOTo z k4) k4)) k4) r V k4 8 (if zBal (zPOTo z k4) k4 < 0 then zBal (zPOTo z k4) k4 else 0) (by omega)) ok_X10_put dX10_doPayOff_62 wm_ml_X10_53 rfl mw_m rfl rfl (Nat.le_of_ble_eq_true rfl) ⟨Nat.le_of_ble_eq_true rfl, Nat.le_of_ble_eq_true rfl⟩ rfl ?_
              refine G.iinc (pc := 65) cx dX10_doPayOff_65 (v := nI (k4 + 1)) (k := 2) rfl (nI_add k4 1) (by decide) rfl ?_
              refine G.goto (pc := 68) cx dX10_doPayOff_68 (tgt := 4) (by decide) ?_
              refine G.cast (V' := (mw K o (zPOTo z (k4 + 1)) r V)) (congrArg (fun q9 => mw K o q9 r V) (by first | (simp [zPOTo, zPO1, *]; done) | (simp [zPOSum, *]; done) | (simp_all [zPOTo, zPO1, Int32.not_lt]; done) | (simp_all [zPOSum, Int32.not_lt]; done))) ?_
              refine G.castL (lv' := [(0, .ref o), (1, .int ((zPOSum z k4) + (zBal (zPOTo z k4) k4))), (2, .int (nI (k4 + 1)))]) [1, 2, 0] rfl ?_
              refine G.lv0 (lv2 := [(0, .ref o), (1, .int (zPOSum z (k4 + 1))), (2, .int (nI (k4 + 1)))]) (congrArg (fun q9 => ([(0, .ref o), (1, .int q9), (2, .int (nI (k4 + 1)))] : List (Nat × Value))) (show ((zPOSum z k4) + (zBal (zPOTo z k4) k4) : Int32) = zPOSum z (k4 + 1) from by first | (simp [zPOTo, zPO1, *]; done) | (simp [zPOSum, *]; done) | (simp_all [zPOTo, zPO1, Int32.not_lt]; done) | (simp_all [zPOSum, Int32.not_lt]; done))) ?_
              exact ih4 (k4 + 1) (by omega) (by omega)
            refine G.if_ge (pc := 54) cx dX10_doPayOff_54 (tgt := 61) (by decide) (fun cq54 => ?_) (fun cq54 => ?_)
            · skip
              refine G.iconst (pc := 61) cx dX10_doPayOff_61 (v := 0) (by decide) ?_
              refine G.castS (st' := [.int (if zBal (zPOTo z k4) k4 < 0 then zBal (zPOTo z k4) k4 else 0), .int 8, .int (nI k4), .ref o]) (congrArg (fun q9 => ([.int q9, .int 8, .int (nI k4), .ref o] : List Value)) (show (0 : Int32) = if zBal (zPOTo z k4) k4 < 0 then zBal (zPOTo z k4) k4 else 0 from by (try clear J62_3); (try clear J62_2); (try clear L4_1); (try clear ih4); (try clear hin9); (try clear cx); first | rfl | (refine b2_t ?_; grind) | (refine b2_f ?_; grind) | (simp [*]; done) | (simp_all; done) | grind)) ?_
              refine G.castL (lv' := [(0, .ref o), (1, .int ((zPOSum z k4) + (zBal (zPOTo z k4) k4))), (2, .int (nI k4)), (3, .int (zBal (zPOTo z k4) k4))]) [2, 0, 3, 1] rfl ?_
              exact J62_3
            · skip
              refine G.iload_n (pc := 57) cx dX10_doPayOff_57 rfl 1 rfl ?_
              refine G.goto (pc := 58) cx dX10_doPayOff_58 (tgt := 62) (by decide) ?_
              refine G.castS (st' := [.int (if zBal (zPOTo z k4) k4 < 0 then zBal (zPOTo z k4) k4 else 0), .int 8, .int (nI k4), .ref o]) (congrArg (fun q9 => ([.int q9, .int 8, .int (nI k4), .ref o] : List Value)) (show (zBal (zPOTo z k4) k4 : Int32) = if zBal (zPOTo z k4) k4 < 0 then zBal (zPOTo z k4) k4 else 0 from by (try clear J62_3); (try clear J62_2); (try clear L4_1); (try clear ih4); (try clear hin9); (try clear cx); first | rfl | (refine b2_t ?_; grind) | (refine b2_f ?_; grind) | (simp [*]; done) | (simp_all; done) | grind)) ?_
              refine G.castL (lv' := [(0, .ref o), (1, .int ((zPOSum z k4) + (zBal (zPOTo z k4) k4))), (2, .int (nI k4)), (3, .int (zBal (zPOTo z k4) k4))]) [2, 0, 3, 1] rfl ?_
              exact J62_3
  refine G.cast (V' := (mw K o (zPOTo z 0) r V)) (congrArg (fun q9 => mw K o q9 r V) (by rfl)) ?_
  refine G.castL (lv' := [(0, .ref o), (1, .int 0), (2, .int 0)]) [2, 1, 0] rfl ?_
  refine G.lv0 (lv2 := [(0, .ref o), (1, .int (zPOSum z 0)), (2, .int 0)]) (congrArg (fun q9 => ([(0, .ref o), (1, .int q9), (2, .int 0)] : List (Nat × Value))) (show (0 : Int32) = zPOSum z 0 from by rfl)) ?_
  refine G.lv0 (lv2 := [(0, .ref o), (1, .int (zPOSum z 0)), (2, .int (nI 0))]) (congrArg (fun q9 => ([(0, .ref o), (1, .int (zPOSum z 0)), (2, .int q9)] : List (Nat × Value))) (show (0 : Int32) = nI 0 from by rfl)) ?_
  exact L4_1 (N + 1) 0 (by omega) (by omega)
set_option maxHeartbeats 4000000 in
set_option maxRecDepth 100000 in
theorem c_X10_payOff (l : Launch) (K : KT) (sz : Nat) (o : Nat) (z : Zt) (r : Rt) (V : VW) (N : Nat) (n : Nat) (hN : z 194 = nI N) (h16 : N ≤ 16) (hn : r.2.2.2.2 0 = nI n) (h4 : n ≤ 4) : Ct l K yX10_payOff cX10_payOff 2 (some .int) 4 [.ref o] (mw K o z r V) sz (some (.int (if zNoPO z < 0 then zNoPO z else zPOSum z N))) (mw K o (if zNoPO z < 0 then z else zDoPO z N) (if zNoPO z < 0 then r else rRec r n z) V) sz 0 0 := by
  refine Ct.ofG (by decide) (Nat.le_of_ble_eq_true rfl) ?_
  intro p9 e9 s9 m9 a9 b9 t9 c9 cx hin9
  refine G.lv0 (lv2 := [(0, .ref o)]) rfl ?_
  refine G.aload_n (pc := 0) cx dX10_payOff_0 rfl 0 rfl ?_
  refine G.callV0 (pc := 1) (rest := []) (st1 := [.int (zNoPO z)]) cx (c_X10_noPayOff l K sz o z r V) ok_X10_noPayOff dX10_payOff_1 wm_ml_X10_176 rfl mw_m rfl rfl (Nat.le_of_ble_eq_true rfl) ⟨Nat.le_of_ble_eq_true rfl, Nat.le_of_ble_eq_true rfl⟩ rfl ?_
  refine G.istore_n (pc := 4) cx dX10_payOff_4 rfl (by decide) rfl ?_
  refine G.iload_n (pc := 5) cx dX10_payOff_5 rfl 0 rfl ?_
  refine G.if_ge (pc := 6) cx dX10_payOff_6 (tgt := 11) (by decide) (fun cq6 => ?_) (fun cq6 => ?_)
  · skip
    refine G.aload_n (pc := 11) cx dX10_payOff_11 rfl 1 rfl ?_
    refine G.aload_n (pc := 12) cx dX10_payOff_12 rfl 1 rfl ?_
    refine G.getM (pc := 13) cx dX10_payOff_13 0 wm_fl_X10_7 (by decide) rfl ?_
    refine G.callV0 (pc := 16) (rest := []) (st1 := []) cx (c_X10_record l K sz o z r V n (by first | assumption | simp [*]) (by omega)) ok_X10_record dX10_payOff_16 wm_ml_X10_76 rfl mw_m rfl rfl (Nat.le_of_ble_eq_true rfl) ⟨Nat.le_of_ble_eq_true rfl, Nat.le_of_ble_eq_true rfl⟩ rfl ?_
    refine G.aload_n (pc := 19) cx dX10_payOff_19 rfl 1 rfl ?_
    refine G.callV0 (pc := 20) (rest := []) (st1 := [.int (zPOSum z N)]) cx (c_X10_doPayOff l K sz o z (rRec r n z) V N (by assumption) (by omega)) ok_X10_doPayOff dX10_payOff_20 wm_ml_X10_179 rfl mw_m rfl rfl (Nat.le_of_ble_eq_true rfl) ⟨Nat.le_of_ble_eq_true rfl, Nat.le_of_ble_eq_true rfl⟩ rfl ?_
    refine G.iret (pc := 23) cx rfl dX10_payOff_23 ?_ ?_ rfl
    · refine congrArg (fun x => some (Value.int x)) ?_
      (try clear hin9); (try clear cx); first | (rw [if_pos (Int32.not_le.mp cq6)]; done) | (rw [if_neg (Int32.not_lt.mpr cq6)]; done) | (rw [if_neg (Int32.not_lt.mpr cq6)]; rfl)
    · show _ = _
      (try clear hin9); (try clear cx); first | (rw [if_pos (Int32.not_le.mp cq6), if_pos (Int32.not_le.mp cq6)]; done) | (rw [if_neg (Int32.not_lt.mpr cq6), if_neg (Int32.not_lt.mpr cq6)]; done) | (rw [if_neg (Int32.not_lt.mpr cq6), if_neg (Int32.not_lt.mpr cq6)]; rfl)
  · skip
    refine G.iload_n (pc := 9) cx dX10_payOff_9 rfl 0 rfl ?_
    refine G.iret (pc := 10) cx rfl dX10_payOff_10 ?_ ?_ rfl
    · refine congrArg (fun x => some (Value.int x)) ?_
      (try clear hin9); (try clear cx); first | (rw [if_pos (Int32.not_le.mp cq6)]; done) | (rw [if_neg (Int32.not_lt.mpr cq6)]; done) | (rw [if_neg (Int32.not_lt.mpr cq6)]; rfl)
    · show _ = _
      (try clear hin9); (try clear cx); first | (rw [if_pos (Int32.not_le.mp cq6), if_pos (Int32.not_le.mp cq6)]; done) | (rw [if_neg (Int32.not_lt.mpr cq6), if_neg (Int32.not_lt.mpr cq6)]; done) | (rw [if_neg (Int32.not_lt.mpr cq6), if_neg (Int32.not_lt.mpr cq6)]; rfl)
