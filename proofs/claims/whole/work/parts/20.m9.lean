theorem rRec_g (r : Rt) (n : Nat) (s : Zt) {i : Nat} (h : i ≠ 0) : (rRec r n s).2.2.2.2 i = r.2.2.2.2 i := upd_n _ _ h
set_option maxHeartbeats 4000000 in
set_option maxRecDepth 100000 in
theorem c_X10_fault (l : Launch) (K : KT) (sz : Nat) (o : Nat) (z : Zt) (r : Rt) (V : VW) (q : Int32) (L : Nat) (N : Nat) (hL : r.2.2.2.2 1 = nI L) (hL6 : L ≤ 60) (hN : z 194 = nI N) (h16 : N ≤ 16) : Ct l K yX10_fault cX10_fault 3 (some .int) 7 [.ref o, .int q] (mw K o z r V) sz (some (.int (mFault (tAt r.2.2.1 L) L r.2.2.2.1 z q))) (mw K o z (if ¬ (0 ≤ q ∧ q ≤ 2) then r else rTry r (tAt r.2.2.1 L) L z) V) sz 0 0 := by
  refine Ct.ofG (by decide) (Nat.le_of_ble_eq_true rfl) ?_
  intro p9 e9 s9 m9 a9 b9 t9 c9 cx hin9
  refine G.lv0 (lv2 := [(0, .ref o), (1, .int q)]) rfl ?_
  refine G.iload_n (pc := 0) cx dX10_fault_0 rfl 1 rfl ?_
  refine G.iconst (pc := 1) cx dX10_fault_1 (v := 0) (by decide) ?_
  refine G.iconst (pc := 2) cx dX10_fault_2 (v := 2) (by decide) ?_
  refine G.callS0 (pc := 3) (rest := []) (st1 := [.int (b2 (0 ≤ q ∧ q ≤ 2))]) cx (c_X10_in l K sz q 0 2 (mw K o z r V)) ok_X10_in dX10_fault_3 wm_ml_X10_25 rfl rfl (Nat.le_of_ble_eq_true rfl) ⟨Nat.le_of_ble_eq_true rfl, Nat.le_of_ble_eq_true rfl⟩ rfl ?_
  refine G.if_neB (pc := 6) cx dX10_fault_6 (tgt := 12) (by decide) (fun cq6 => ?_) (fun cq6 => ?_)
  · skip
    refine G.aload_n (pc := 12) cx dX10_fault_12 rfl 0 rfl ?_
    refine G.callV0 (pc := 13) (rest := []) (st1 := []) cx (c_X10_putAside l K sz o z r V) ok_X10_putAside dX10_fault_13 wm_ml_X10_226 rfl mw_m rfl rfl (Nat.le_of_ble_eq_true rfl) ⟨Nat.le_of_ble_eq_true rfl, Nat.le_of_ble_eq_true rfl⟩ rfl ?_
    refine G.aload_n (pc := 16) cx dX10_fault_16 rfl 0 rfl ?_
    refine G.callV0 (pc := 17) (rest := []) (st1 := [.int (b2 (L ≤ tU (tAt r.2.2.1 L) (txK (tAt r.2.2.1 L) L r.2.2.2.1 z L 0)))]) cx (c_X10_doText l K sz o z (z, r.2.1, r.2.2.1, r.2.2.2.1, r.2.2.2.2) V L N (by exact hL) (by omega) (by assumption) (by omega)) ok_X10_doText dX10_fault_17 wm_ml_X10_229 rfl mw_m rfl rfl (Nat.le_of_ble_eq_true rfl) ⟨Nat.le_of_ble_eq_true rfl, Nat.le_of_ble_eq_true rfl⟩ rfl ?_
    refine G.istore_n (pc := 20) cx dX10_fault_20 rfl (by decide) rfl ?_
    refine G.aload_n (pc := 21) cx dX10_fault_21 rfl 1 rfl ?_
    refine G.callV0 (pc := 22) (rest := []) (st1 := []) cx (c_X10_putBack l K sz o (tZ (tAt r.2.2.1 L) r.2.2.2.1 z (txK (tAt r.2.2.1 L) L r.2.2.2.1 z L 0)) (txR (z, r.2.1, r.2.2.1, r.2.2.2.1, r.2.2.2.2) (tAt r.2.2.1 L) L z) V) ok_X10_putBack dX10_fault_22 wm_ml_X10_232 rfl mw_m rfl rfl (Nat.le_of_ble_eq_true rfl) ⟨Nat.le_of_ble_eq_true rfl, Nat.le_of_ble_eq_true rfl⟩ rfl ?_
    refine G.cast (V' := (mw K o z (rTry r (tAt r.2.2.1 L) L z) V)) rfl ?_
    refine G.iload_n (pc := 25) cx dX10_fault_25 rfl 0 rfl ?_
    refine G.if_eqB (pc := 26) cx dX10_fault_26 (tgt := 34) (by decide) (fun cq26 => ?_) (fun cq26 => ?_)
    · skip
      refine G.iload_n (pc := 34) cx dX10_fault_34 rfl 2 rfl ?_
      refine G.if_ne (pc := 35) cx dX10_fault_35 (tgt := 45) (by decide) (fun cq35 => ?_) (fun cq35 => ?_)
      · skip
        refine G.iload_n (pc := 45) cx dX10_fault_45 rfl 2 rfl ?_
        refine G.iconst (pc := 46) cx dX10_fault_46 (v := 1) (by decide) ?_
        refine G.icmp_ne (pc := 47) cx dX10_fault_47 (tgt := 57) (by decide) (fun cq47 => ?_) (fun cq47 => ?_)
        · skip
          refine G.aload_n (pc := 57) cx dX10_fault_57 rfl 1 rfl ?_
          refine G.getM (pc := 58) cx dX10_fault_58 11 wm_fl_X10_214 (by decide) (congrArg (fun x => some (Value.int x)) ((txG_6 cq26))) ?_
          refine G.iret (pc := 61) cx rfl dX10_fault_61 ?_ ?_ rfl
          · refine congrArg (fun x => some (Value.int x)) ?_
            (try clear hin9); (try clear cx); refine (if_neg (fun h => h cq6)).trans ?_; simp [*]
          · show _ = _
            (try clear hin9); (try clear cx); rw [if_neg (fun h => h cq6)]
        · skip
          refine G.aload_n (pc := 50) cx dX10_fault_50 rfl 1 rfl ?_
          refine G.getM (pc := 51) cx dX10_fault_51 10 wm_fl_X10_220 (by decide) (congrArg (fun x => some (Value.int x)) ((txG_5 cq26))) ?_
          refine G.goto (pc := 54) cx dX10_fault_54 (tgt := 61) (by decide) ?_
          refine G.iret (pc := 61) cx rfl dX10_fault_61 ?_ ?_ rfl
          · refine congrArg (fun x => some (Value.int x)) ?_
            (try clear hin9); (try clear cx); refine (if_neg (fun h => h cq6)).trans ?_; simp [*]
          · show _ = _
            (try clear hin9); (try clear cx); rw [if_neg (fun h => h cq6)]
      · skip
        refine G.aload_n (pc := 38) cx dX10_fault_38 rfl 1 rfl ?_
        refine G.getM (pc := 39) cx dX10_fault_39 9 wm_fl_X10_217 (by decide) (congrArg (fun x => some (Value.int x)) ((txG_4 cq26))) ?_
        refine G.goto (pc := 42) cx dX10_fault_42 (tgt := 61) (by decide) ?_
        refine G.iret (pc := 61) cx rfl dX10_fault_61 ?_ ?_ rfl
        · refine congrArg (fun x => some (Value.int x)) ?_
          (try clear hin9); (try clear cx); refine (if_neg (fun h => h cq6)).trans ?_; simp [*]
        · show _ = _
          (try clear hin9); (try clear cx); rw [if_neg (fun h => h cq6)]
    · skip
      refine G.ldc (pc := 29) cx dX10_fault_29 (v := (-1000004)) wm_ct_X10_182 ?_
      refine G.goto (pc := 31) cx dX10_fault_31 (tgt := 61) (by decide) ?_
      refine G.iret (pc := 61) cx rfl dX10_fault_61 ?_ ?_ rfl
      · refine congrArg (fun x => some (Value.int x)) ?_
        (try clear hin9); (try clear cx); refine (if_neg (fun h => h cq6)).trans ?_; simp [*]
      · show _ = _
        (try clear hin9); (try clear cx); rw [if_neg (fun h => h cq6)]
  · skip
    refine G.ldc (pc := 9) cx dX10_fault_9 (v := (-1000001)) wm_ct_X10_64 ?_
    refine G.iret (pc := 11) cx rfl dX10_fault_11 ?_ ?_ rfl
    · refine congrArg (fun x => some (Value.int x)) ?_
      (try clear hin9); (try clear cx); exact if_pos cq6
    · show _ = _
      (try clear hin9); (try clear cx); rw [if_pos cq6]
set_option maxHeartbeats 4000000 in
set_option maxRecDepth 100000 in
theorem c_X10_play (l : Launch) (K : KT) (sz : Nat) (o : Nat) (z : Zt) (r : Rt) (V : VW) (L : Nat) (N : Nat) (n : Nat) (hL : r.2.2.2.2 1 = nI L) (hL6 : L ≤ 60) (hN : z 194 = nI N) (h16 : N ≤ 16) (hn : r.2.2.2.2 0 = nI n) (h4 : n ≤ 4) : Ct l K yX10_play cX10_play 1 (some .int) 7 [.ref o] (mw K o z r V) sz (some (.int (if L ≤ tU (tAt r.2.2.1 L) (txK (tAt r.2.2.1 L) L r.2.2.2.1 z L 0) then nI (txK (tAt r.2.2.1 L) L r.2.2.2.1 z L 0) else -1000002))) (mw K o (if L ≤ tU (tAt r.2.2.1 L) (txK (tAt r.2.2.1 L) L r.2.2.2.1 z L 0) then tZ (tAt r.2.2.1 L) r.2.2.2.1 z (txK (tAt r.2.2.1 L) L r.2.2.2.1 z L 0) else z) (if L ≤ tU (tAt r.2.2.1 L) (txK (tAt r.2.2.1 L) L r.2.2.2.1 z L 0) then rRec (rTry r (tAt r.2.2.1 L) L z) n z else rTry r (tAt r.2.2.1 L) L z) V) sz 0 0 := by
  refine Ct.ofG (by decide) (Nat.le_of_ble_eq_true rfl) ?_
  intro p9 e9 s9 m9 a9 b9 t9 c9 cx hin9
  refine G.lv0 (lv2 := [(0, .ref o)]) rfl ?_
  refine G.aload_n (pc := 0) cx dX10_play_0 rfl 0 rfl ?_
  refine G.callV0 (pc := 1) (rest := []) (st1 := []) cx (c_X10_putAside l K sz o z r V) ok_X10_putAside dX10_play_1 wm_ml_X10_226 rfl mw_m rfl rfl (Nat.le_of_ble_eq_true rfl) ⟨Nat.le_of_ble_eq_true rfl, Nat.le_of_ble_eq_true rfl⟩ rfl ?_
  refine G.aload_n (pc := 4) cx dX10_play_4 rfl 0 rfl ?_
  refine G.callV0 (pc := 5) (rest := []) (st1 := [.int (b2 (L ≤ tU (tAt r.2.2.1 L) (txK (tAt r.2.2.1 L) L r.2.2.2.1 z L 0)))]) cx (c_X10_doText l K sz o z (z, r.2.1, r.2.2.1, r.2.2.2.1, r.2.2.2.2) V L N (by exact hL) (by omega) (by assumption) (by omega)) ok_X10_doText dX10_play_5 wm_ml_X10_229 rfl mw_m rfl rfl (Nat.le_of_ble_eq_true rfl) ⟨Nat.le_of_ble_eq_true rfl, Nat.le_of_ble_eq_true rfl⟩ rfl ?_
  refine G.if_neB (pc := 8) cx dX10_play_8 (tgt := 18) (by decide) (fun cq8 => ?_) (fun cq8 => ?_)
  · skip
    refine G.cast (V' := (mw K o (tZ (tAt r.2.2.1 L) r.2.2.2.1 z (txK (tAt r.2.2.1 L) L r.2.2.2.1 z L 0)) (rTry r (tAt r.2.2.1 L) L z) V)) rfl ?_
    refine G.aload_n (pc := 18) cx dX10_play_18 rfl 0 rfl ?_
    refine G.aload_n (pc := 19) cx dX10_play_19 rfl 0 rfl ?_
    refine G.getM (pc := 20) cx dX10_play_20 1 wm_fl_X10_13 (by decide) rfl ?_
    refine G.callV0 (pc := 23) (rest := []) (st1 := []) cx (c_X10_recordA l K sz o (tZ (tAt r.2.2.1 L) r.2.2.2.1 z (txK (tAt r.2.2.1 L) L r.2.2.2.1 z L 0)) (rTry r (tAt r.2.2.1 L) L z) V n (by exact (txG_k _ _ _ _ _ (Or.inl rfl)).trans hn) (by omega)) ok_X10_record dX10_play_23 wm_ml_X10_76 rfl mw_m rfl rfl (Nat.le_of_ble_eq_true rfl) ⟨Nat.le_of_ble_eq_true rfl, Nat.le_of_ble_eq_true rfl⟩ rfl ?_
    refine G.aload_n (pc := 26) cx dX10_play_26 rfl 0 rfl ?_
    refine G.getM (pc := 27) cx dX10_play_27 12 wm_fl_X10_205 (by decide) (congrArg (fun x => some (Value.int x)) (((rRec_g _ _ _ (by omega)).trans (txG_7 cq8)))) ?_
    refine G.iret (pc := 30) cx rfl dX10_play_30 ?_ ?_ rfl
    · refine congrArg (fun x => some (Value.int x)) ?_
      (try clear hin9); (try clear cx); rw [if_pos cq8]
    · show _ = _
      (try clear hin9); (try clear cx); rw [if_pos cq8, if_pos cq8]; rfl
  · skip
    refine G.aload_n (pc := 11) cx dX10_play_11 rfl 0 rfl ?_
    refine G.callV0 (pc := 12) (rest := []) (st1 := []) cx (c_X10_putBack l K sz o (tZ (tAt r.2.2.1 L) r.2.2.2.1 z (txK (tAt r.2.2.1 L) L r.2.2.2.1 z L 0)) (txR (z, r.2.1, r.2.2.1, r.2.2.2.1, r.2.2.2.2) (tAt r.2.2.1 L) L z) V) ok_X10_putBack dX10_play_12 wm_ml_X10_232 rfl mw_m rfl rfl (Nat.le_of_ble_eq_true rfl) ⟨Nat.le_of_ble_eq_true rfl, Nat.le_of_ble_eq_true rfl⟩ rfl ?_
    refine G.cast (V' := (mw K o z (rTry r (tAt r.2.2.1 L) L z) V)) rfl ?_
    refine G.ldc (pc := 15) cx dX10_play_15 (v := (-1000002)) wm_ct_X10_37 ?_
    refine G.iret (pc := 17) cx rfl dX10_play_17 ?_ ?_ rfl
    · refine congrArg (fun x => some (Value.int x)) ?_
      (try clear hin9); (try clear cx); rw [if_neg cq8]
    · show _ = _
      (try clear hin9); (try clear cx); rw [if_neg cq8, if_neg cq8]
