set_option maxHeartbeats 4000000 in
set_option maxRecDepth 100000 in
theorem c_X10_set (l : Launch) (K : KT) (sz : Nat) (o : Nat) (z : Zt) (r : Rt) (V : VW) (q : Int32) (v : Int32) (n : Nat) (hn : r.2.2.2.2 0 = nI n) (h4 : n ≤ 4) : Ct l K yX10_set cX10_set 4 (some .int) 1 [.ref o, .int q, .int v] (mw K o z r V) sz (some (.int (if zNoSet q v < 0 then zNoSet q v else z (203 + (q).toNatClampNeg)))) (mw K o (if zNoSet q v < 0 then z else zDoSet z q v) (if zNoSet q v < 0 then r else rRec r n z) V) sz 0 0 := by
  refine Ct.ofG (by decide) (Nat.le_of_ble_eq_true rfl) ?_
  intro p9 e9 s9 m9 a9 b9 t9 c9 cx hin9
  refine G.lv0 (lv2 := [(0, .ref o), (1, .int q), (2, .int v)]) rfl ?_
  refine G.iload_n (pc := 0) cx dX10_set_0 rfl 1 rfl ?_
  refine G.iconst (pc := 1) cx dX10_set_1 (v := 0) (by decide) ?_
  refine G.iconst (pc := 2) cx dX10_set_2 (v := 2) (by decide) ?_
  refine G.callS0 (pc := 3) (rest := []) (st1 := [.int (b2 (0 ≤ q ∧ q ≤ 2))]) cx (c_X10_in l K sz q 0 2 (mw K o z r V)) ok_X10_in dX10_set_3 wm_ml_X10_25 rfl rfl (Nat.le_of_ble_eq_true rfl) ⟨Nat.le_of_ble_eq_true rfl, Nat.le_of_ble_eq_true rfl⟩ rfl ?_
  refine G.if_eqB (pc := 6) cx dX10_set_6 (tgt := 40) (by decide) (fun cq6 => ?_) (fun cq6 => ?_)
  · skip
    refine G.ldc (pc := 40) cx dX10_set_40 (v := (-1000001)) wm_ct_X10_64 ?_
    refine G.iret (pc := 42) cx rfl dX10_set_42 ?_ ?_ rfl
    · refine congrArg (fun x => some (Value.int x)) ?_
      (try clear hin9); (try clear cx); first | (rw [show zNoSet q v = -1000001 from if_pos (Or.inl cq6)]; rfl) | (rw [show zNoSet q v = -1000001 from if_pos (Or.inr cq37)]; rfl)
    · show _ = _
      (try clear hin9); (try clear cx); first | (rw [show zNoSet q v = -1000001 from if_pos (Or.inl cq6)]; rfl) | (rw [show zNoSet q v = -1000001 from if_pos (Or.inr cq37)]; rfl)
  · skip
    refine G.iload_n (pc := 9) cx dX10_set_9 rfl 2 rfl ?_
    refine G.iconst (pc := 10) cx dX10_set_10 (v := 0) (by decide) ?_
    refine G.iload_n (pc := 11) cx dX10_set_11 rfl 1 rfl ?_
    have J34_1 : G K p9 l e9 (rmL 1 0 0) s9 m9 a9 b9 t9 c9 (MQ b9 (QCt K (some (.int (if zNoSet q v < 0 then zNoSet q v else z (203 + (q).toNatClampNeg)))) (mw K o (if zNoSet q v < 0 then z else zDoSet z q v) (if zNoSet q v < 0 then r else rRec r n z) V) sz) a9 s9 0 0 (kA K)) 4 (mw K o z r V) sz 0 0 34 [(0, .ref o), (1, .int q), (2, .int v)] [.int (if q = 0 then 500 else if q = 1 then 200 else 50), .int 0, .int v] := by
      refine G.callS0 (pc := 34) (rest := []) (st1 := [.int (b2 (0 ≤ v ∧ v ≤ (if q = 0 then 500 else if q = 1 then 200 else 50)))]) cx (c_X10_in l K sz v 0 (if q = 0 then 500 else if q = 1 then 200 else 50) (mw K o z r V)) ok_X10_in dX10_set_34 wm_ml_X10_25 rfl rfl (Nat.le_of_ble_eq_true rfl) ⟨Nat.le_of_ble_eq_true rfl, Nat.le_of_ble_eq_true rfl⟩ rfl ?_
      refine G.if_neB (pc := 37) cx dX10_set_37 (tgt := 43) (by decide) (fun cq37 => ?_) (fun cq37 => ?_)
      · skip
        obtain ⟨j, hj, rfl⟩ := in_of (n := 2) (by decide) cq6
        have tj : (nI j).toNatClampNeg = j := nI_clamp (by omega)
        refine G.aload_n (pc := 43) cx dX10_set_43 rfl 0 rfl ?_
        refine G.aload_n (pc := 44) cx dX10_set_44 rfl 0 rfl ?_
        refine G.getM (pc := 45) cx dX10_set_45 0 wm_fl_X10_7 (by decide) rfl ?_
        refine G.callV0 (pc := 48) (rest := []) (st1 := []) cx (c_X10_record l K sz o z r V n (by first | assumption | simp [*]) (by omega)) ok_X10_record dX10_set_48 wm_ml_X10_76 rfl mw_m rfl rfl (Nat.le_of_ble_eq_true rfl) ⟨Nat.le_of_ble_eq_true rfl, Nat.le_of_ble_eq_true rfl⟩ rfl ?_
        refine G.aload_n (pc := 51) cx dX10_set_51 rfl 0 rfl ?_
        refine G.getM (pc := 52) cx dX10_set_52 0 wm_fl_X10_7 (by decide) rfl ?_
        refine G.sipush (pc := 55) cx dX10_set_55 (v := 203) (by decide) ?_
        refine G.iload_n (pc := 58) cx dX10_set_58 rfl 1 rfl ?_
        refine G.iaddN (pc := 59) cx dX10_set_59 203 j ?_
        refine G.ialdV (pc := 60) cx dX10_set_60 mw_z (j := (203 + j)) rfl (by omega) (by decide) (cut_at (by omega)) ?_
        refine G.istore_n (pc := 61) cx dX10_set_61 rfl (by decide) rfl ?_
        refine G.aload_n (pc := 62) cx dX10_set_62 rfl 1 rfl ?_
        refine G.getM (pc := 63) cx dX10_set_63 0 wm_fl_X10_7 (by decide) rfl ?_
        refine G.sipush (pc := 66) cx dX10_set_66 (v := 203) (by decide) ?_
        refine G.iload_n (pc := 69) cx dX10_set_69 rfl 2 rfl ?_
        refine G.iaddN (pc := 70) cx dX10_set_70 203 j ?_
        refine G.iload_n (pc := 71) cx dX10_set_71 rfl 3 rfl ?_
        refine G.iastC (pc := 72) cx dX10_set_72 mw_z (j := (203 + j)) rfl (by omega) (by decide) mwZ ?_
        refine G.iload_n (pc := 73) cx dX10_set_73 rfl 0 rfl ?_
        refine G.iret (pc := 74) cx rfl dX10_set_74 ?_ ?_ rfl
        · refine congrArg (fun x => some (Value.int x)) ?_
          (try clear J34_1); (try clear hin9); (try clear cx); rw [show zNoSet (nI j) v = 0 from if_neg (fun h => h.elim (fun h => h cq6) (fun h => h cq37)), tj]; rfl
        · show _ = _
          (try clear J34_1); (try clear hin9); (try clear cx); rw [show zNoSet (nI j) v = 0 from if_neg (fun h => h.elim (fun h => h cq6) (fun h => h cq37))]; simp only [zDoSet, tj]; rfl
      · skip
        refine G.ldc (pc := 40) cx dX10_set_40 (v := (-1000001)) wm_ct_X10_64 ?_
        refine G.iret (pc := 42) cx rfl dX10_set_42 ?_ ?_ rfl
        · refine congrArg (fun x => some (Value.int x)) ?_
          (try clear J34_1); (try clear hin9); (try clear cx); first | (rw [show zNoSet q v = -1000001 from if_pos (Or.inl cq6)]; rfl) | (rw [show zNoSet q v = -1000001 from if_pos (Or.inr cq37)]; rfl)
        · show _ = _
          (try clear J34_1); (try clear hin9); (try clear cx); first | (rw [show zNoSet q v = -1000001 from if_pos (Or.inl cq6)]; rfl) | (rw [show zNoSet q v = -1000001 from if_pos (Or.inr cq37)]; rfl)
    refine G.if_ne (pc := 12) cx dX10_set_12 (tgt := 21) (by decide) (fun cq12 => ?_) (fun cq12 => ?_)
    · skip
      refine G.iload_n (pc := 21) cx dX10_set_21 rfl 1 rfl ?_
      refine G.iconst (pc := 22) cx dX10_set_22 (v := 1) (by decide) ?_
      refine G.icmp_ne (pc := 23) cx dX10_set_23 (tgt := 32) (by decide) (fun cq23 => ?_) (fun cq23 => ?_)
      · skip
        refine G.bipush (pc := 32) cx dX10_set_32 (v := 50) (by decide) ?_
        refine G.castS (st' := [.int (if q = 0 then 500 else if q = 1 then 200 else 50), .int 0, .int v]) (congrArg (fun q9 => ([.int q9, .int 0, .int v] : List Value)) (show (50 : Int32) = if q = 0 then 500 else if q = 1 then 200 else 50 from by simp [*])) ?_
        exact J34_1
      · skip
        refine G.sipush (pc := 26) cx dX10_set_26 (v := 200) (by decide) ?_
        refine G.goto (pc := 29) cx dX10_set_29 (tgt := 34) (by decide) ?_
        refine G.castS (st' := [.int (if q = 0 then 500 else if q = 1 then 200 else 50), .int 0, .int v]) (congrArg (fun q9 => ([.int q9, .int 0, .int v] : List Value)) (show (200 : Int32) = if q = 0 then 500 else if q = 1 then 200 else 50 from by simp [*])) ?_
        exact J34_1
    · skip
      refine G.sipush (pc := 15) cx dX10_set_15 (v := 500) (by decide) ?_
      refine G.goto (pc := 18) cx dX10_set_18 (tgt := 34) (by decide) ?_
      refine G.castS (st' := [.int (if q = 0 then 500 else if q = 1 then 200 else 50), .int 0, .int v]) (congrArg (fun q9 => ([.int q9, .int 0, .int v] : List Value)) (show (500 : Int32) = if q = 0 then 500 else if q = 1 then 200 else 50 from by simp [*])) ?_
      exact J34_1
set_option maxHeartbeats 4000000 in
set_option maxRecDepth 100000 in
theorem c_X10_sailor (l : Launch) (K : KT) (sz : Nat) (o : Nat) (z : Zt) (r : Rt) (V : VW) (a : Int32) (q : Int32) (N : Nat) (hN : z 194 = nI N) (h16 : N ≤ 16) : Ct l K yX10_sailor cX10_sailor 3 (some .int) 4 [.ref o, .int a, .int q] (mw K o z r V) sz (some (.int (zSailor z a q))) (mw K o z r V) sz 0 0 := by
  refine Ct.ofG (by decide) (Nat.le_of_ble_eq_true rfl) ?_
  intro p9 e9 s9 m9 a9 b9 t9 c9 cx hin9
  refine G.lv0 (lv2 := [(0, .ref o), (1, .int a), (2, .int q)]) rfl ?_
  refine G.aload_n (pc := 0) cx dX10_sailor_0 rfl 0 rfl ?_
  refine G.iload_n (pc := 1) cx dX10_sailor_1 rfl 1 rfl ?_
  refine G.callV0 (pc := 2) (rest := []) (st1 := [.int (b2 (0 ≤ a ∧ a ≤ z 194 - 1))]) cx (c_X10_isSailor l K sz o z r V a) ok_X10_isSailor dX10_sailor_2 wm_ml_X10_98 rfl mw_m rfl rfl (Nat.le_of_ble_eq_true rfl) ⟨Nat.le_of_ble_eq_true rfl, Nat.le_of_ble_eq_true rfl⟩ rfl ?_
  refine G.if_neB (pc := 5) cx dX10_sailor_5 (tgt := 11) (by decide) (fun cq5 => ?_) (fun cq5 => ?_)
  · skip
    obtain ⟨k, hk, rfl⟩ := sail_of hN h16 cq5
    have tk : (nI k).toNatClampNeg = k := nI_clamp (by omega)
    refine G.iload_n (pc := 11) cx dX10_sailor_11 rfl 2 rfl ?_
    by_cases sw12_0 : q = 0
    · subst sw12_0
      refine G.tableIn (pc := 12) cx dX10_sailor_12 (off := 68) (tgt := 80) (by decide) (by decide) (by decide) (by decide) ?_
      refine G.aload_n (pc := 80) cx dX10_sailor_80 rfl 0 rfl ?_
      refine G.iload_n (pc := 81) cx dX10_sailor_81 rfl 1 rfl ?_
      refine G.iconst (pc := 82) cx dX10_sailor_82 (v := 0) (by decide) ?_
      refine G.callV0 (pc := 83) (rest := []) (st1 := [.int (z (10 * k + 0))]) cx (c_X10_of l K sz o z r V k 0 (by omega)) ok_X10_of dX10_sailor_83 wm_ml_X10_29 rfl mw_m rfl rfl (Nat.le_of_ble_eq_true rfl) ⟨Nat.le_of_ble_eq_true rfl, Nat.le_of_ble_eq_true rfl⟩ rfl ?_
      refine G.iret (pc := 86) cx rfl dX10_sailor_86 ?_ ?_ rfl
      · refine congrArg (fun x => some (Value.int x)) ?_
        (try clear hin9); (try clear cx); refine (if_neg (fun h => h cq5)).trans ?_; rw [tk]; simp [zTellS, *]
      · rfl
    by_cases sw12_1 : q = 1
    · subst sw12_1
      refine G.tableIn (pc := 12) cx dX10_sailor_12 (off := 75) (tgt := 87) (by decide) (by decide) (by decide) (by decide) ?_
      refine G.aload_n (pc := 87) cx dX10_sailor_87 rfl 0 rfl ?_
      refine G.iload_n (pc := 88) cx dX10_sailor_88 rfl 1 rfl ?_
      refine G.iconst (pc := 89) cx dX10_sailor_89 (v := 1) (by decide) ?_
      refine G.callV0 (pc := 90) (rest := []) (st1 := [.int (z (10 * k + 1))]) cx (c_X10_of l K sz o z r V k 1 (by omega)) ok_X10_of dX10_sailor_90 wm_ml_X10_29 rfl mw_m rfl rfl (Nat.le_of_ble_eq_true rfl) ⟨Nat.le_of_ble_eq_true rfl, Nat.le_of_ble_eq_true rfl⟩ rfl ?_
      refine G.iret (pc := 93) cx rfl dX10_sailor_93 ?_ ?_ rfl
      · refine congrArg (fun x => some (Value.int x)) ?_
        (try clear hin9); (try clear cx); refine (if_neg (fun h => h cq5)).trans ?_; rw [tk]; simp [zTellS, *]
      · rfl
    by_cases sw12_2 : q = 2
    · subst sw12_2
      refine G.tableIn (pc := 12) cx dX10_sailor_12 (off := 82) (tgt := 94) (by decide) (by decide) (by decide) (by decide) ?_
      refine G.aload_n (pc := 94) cx dX10_sailor_94 rfl 0 rfl ?_
      refine G.iload_n (pc := 95) cx dX10_sailor_95 rfl 1 rfl ?_
      refine G.iconst (pc := 96) cx dX10_sailor_96 (v := 2) (by decide) ?_
      refine G.callV0 (pc := 97) (rest := []) (st1 := [.int (z (10 * k + 2))]) cx (c_X10_of l K sz o z r V k 2 (by omega)) ok_X10_of dX10_sailor_97 wm_ml_X10_29 rfl mw_m rfl rfl (Nat.le_of_ble_eq_true rfl) ⟨Nat.le_of_ble_eq_true rfl, Nat.le_of_ble_eq_true rfl⟩ rfl ?_
      refine G.iret (pc := 100) cx rfl dX10_sailor_100 ?_ ?_ rfl
      · refine congrArg (fun x => some (Value.int x)) ?_
        (try clear hin9); (try clear cx); refine (if_neg (fun h => h cq5)).trans ?_; rw [tk]; simp [zTellS, *]
      · rfl
    by_cases sw12_3 : q = 3
    · subst sw12_3
      refine G.tableIn (pc := 12) cx dX10_sailor_12 (off := 89) (tgt := 101) (by decide) (by decide) (by decide) (by decide) ?_
      refine G.sipush (pc := 101) cx dX10_sailor_101 (v := 10000) (by decide) ?_
      refine G.aload_n (pc := 104) cx dX10_sailor_104 rfl 0 rfl ?_
      refine G.iload_n (pc := 105) cx dX10_sailor_105 rfl 1 rfl ?_
      refine G.callV0 (pc := 106) (rest := [.int 10000]) (st1 := [.int (zBal z k), .int 10000]) cx (c_X10_balance l K sz o z r V k (by omega)) ok_X10_balance dX10_sailor_106 wm_ml_X10_95 rfl mw_m rfl rfl (Nat.le_of_ble_eq_true rfl) ⟨Nat.le_of_ble_eq_true rfl, Nat.le_of_ble_eq_true rfl⟩ rfl ?_
      refine G.iadd (pc := 109) cx dX10_sailor_109 ?_
      refine G.iret (pc := 110) cx rfl dX10_sailor_110 ?_ ?_ rfl
      · refine congrArg (fun x => some (Value.int x)) ?_
        (try clear hin9); (try clear cx); refine (if_neg (fun h => h cq5)).trans ?_; rw [tk]; simp [zTellS, *]
      · rfl
    by_cases sw12_4 : q = 4
    · subst sw12_4
      refine G.tableIn (pc := 12) cx dX10_sailor_12 (off := 89) (tgt := 101) (by decide) (by decide) (by decide) (by decide) ?_
      refine G.sipush (pc := 101) cx dX10_sailor_101 (v := 10000) (by decide) ?_
      refine G.aload_n (pc := 104) cx dX10_sailor_104 rfl 0 rfl ?_
      refine G.iload_n (pc := 105) cx dX10_sailor_105 rfl 1 rfl ?_
      refine G.callV0 (pc := 106) (rest := [.int 10000]) (st1 := [.int (zBal z k), .int 10000]) cx (c_X10_balance l K sz o z r V k (by omega)) ok_X10_balance dX10_sailor_106 wm_ml_X10_95 rfl mw_m rfl rfl (Nat.le_of_ble_eq_true rfl) ⟨Nat.le_of_ble_eq_true rfl, Nat.le_of_ble_eq_true rfl⟩ rfl ?_
      refine G.iadd (pc := 109) cx dX10_sailor_109 ?_
      refine G.iret (pc := 110) cx rfl dX10_sailor_110 ?_ ?_ rfl
      · refine congrArg (fun x => some (Value.int x)) ?_
        (try clear hin9); (try clear cx); refine (if_neg (fun h => h cq5)).trans ?_; rw [tk]; simp [zTellS, *]
      · rfl
    by_cases sw12_5 : q = 5
    · subst sw12_5
      refine G.tableIn (pc := 12) cx dX10_sailor_12 (off := 99) (tgt := 111) (by decide) (by decide) (by decide) (by decide) ?_
      refine G.aload_n (pc := 111) cx dX10_sailor_111 rfl 0 rfl ?_
      refine G.iload_n (pc := 112) cx dX10_sailor_112 rfl 1 rfl ?_
      refine G.iconst (pc := 113) cx dX10_sailor_113 (v := 3) (by decide) ?_
      refine G.callV0 (pc := 114) (rest := []) (st1 := [.int (z (10 * k + 3))]) cx (c_X10_of l K sz o z r V k 3 (by omega)) ok_X10_of dX10_sailor_114 wm_ml_X10_29 rfl mw_m rfl rfl (Nat.le_of_ble_eq_true rfl) ⟨Nat.le_of_ble_eq_true rfl, Nat.le_of_ble_eq_true rfl⟩ rfl ?_
      refine G.iret (pc := 117) cx rfl dX10_sailor_117 ?_ ?_ rfl
      · refine congrArg (fun x => some (Value.int x)) ?_
        (try clear hin9); (try clear cx); refine (if_neg (fun h => h cq5)).trans ?_; rw [tk]; simp [zTellS, *]
      · rfl
    by_cases sw12_6 : q = 6
    · subst sw12_6
      refine G.tableIn (pc := 12) cx dX10_sailor_12 (off := 106) (tgt := 118) (by decide) (by decide) (by decide) (by decide) ?_
      refine G.aload_n (pc := 118) cx dX10_sailor_118 rfl 0 rfl ?_
      refine G.iload_n (pc := 119) cx dX10_sailor_119 rfl 1 rfl ?_
      refine G.iconst (pc := 120) cx dX10_sailor_120 (v := 4) (by decide) ?_
      refine G.callV0 (pc := 121) (rest := []) (st1 := [.int (z (10 * k + 4))]) cx (c_X10_of l K sz o z r V k 4 (by omega)) ok_X10_of dX10_sailor_121 wm_ml_X10_29 rfl mw_m rfl rfl (Nat.le_of_ble_eq_true rfl) ⟨Nat.le_of_ble_eq_true rfl, Nat.le_of_ble_eq_true rfl⟩ rfl ?_
      refine G.iret (pc := 124) cx rfl dX10_sailor_124 ?_ ?_ rfl
      · refine congrArg (fun x => some (Value.int x)) ?_
        (try clear hin9); (try clear cx); refine (if_neg (fun h => h cq5)).trans ?_; rw [tk]; simp [zTellS, *]
      · rfl
    by_cases sw12_7 : q = 7
    · subst sw12_7
      refine G.tableIn (pc := 12) cx dX10_sailor_12 (off := 113) (tgt := 125) (by decide) (by decide) (by decide) (by decide) ?_
      refine G.aload_n (pc := 125) cx dX10_sailor_125 rfl 0 rfl ?_
      refine G.iload_n (pc := 126) cx dX10_sailor_126 rfl 1 rfl ?_
      refine G.callV0 (pc := 127) (rest := []) (st1 := [.int (zEarn z k)]) cx (c_X10_earned l K sz o z r V k (by omega)) ok_X10_earned dX10_sailor_127 wm_ml_X10_46 rfl mw_m rfl rfl (Nat.le_of_ble_eq_true rfl) ⟨Nat.le_of_ble_eq_true rfl, Nat.le_of_ble_eq_true rfl⟩ rfl ?_
      refine G.iret (pc := 130) cx rfl dX10_sailor_130 ?_ ?_ rfl
      · refine congrArg (fun x => some (Value.int x)) ?_
        (try clear hin9); (try clear cx); refine (if_neg (fun h => h cq5)).trans ?_; rw [tk]; simp [zTellS, *]
      · rfl
    by_cases sw12_8 : q = 8
    · subst sw12_8
      refine G.tableIn (pc := 12) cx dX10_sailor_12 (off := 119) (tgt := 131) (by decide) (by decide) (by decide) (by decide) ?_
      refine G.aload_n (pc := 131) cx dX10_sailor_131 rfl 0 rfl ?_
      refine G.iload_n (pc := 132) cx dX10_sailor_132 rfl 1 rfl ?_
      refine G.iconst (pc := 133) cx dX10_sailor_133 (v := 5) (by decide) ?_
      refine G.callV0 (pc := 134) (rest := []) (st1 := [.int (z (10 * k + 5))]) cx (c_X10_of l K sz o z r V k 5 (by omega)) ok_X10_of dX10_sailor_134 wm_ml_X10_29 rfl mw_m rfl rfl (Nat.le_of_ble_eq_true rfl) ⟨Nat.le_of_ble_eq_true rfl, Nat.le_of_ble_eq_true rfl⟩ rfl ?_
      refine G.iret (pc := 137) cx rfl dX10_sailor_137 ?_ ?_ rfl
      · refine congrArg (fun x => some (Value.int x)) ?_
        (try clear hin9); (try clear cx); refine (if_neg (fun h => h cq5)).trans ?_; rw [tk]; simp [zTellS, *]
      · rfl
    by_cases sw12_9 : q = 9
    · subst sw12_9
      refine G.tableIn (pc := 12) cx dX10_sailor_12 (off := 126) (tgt := 138) (by decide) (by decide) (by decide) (by decide) ?_
      refine G.aload_n (pc := 138) cx dX10_sailor_138 rfl 0 rfl ?_
      refine G.iload_n (pc := 139) cx dX10_sailor_139 rfl 1 rfl ?_
      refine G.bipush (pc := 140) cx dX10_sailor_140 (v := 6) (by decide) ?_
      refine G.callV0 (pc := 142) (rest := []) (st1 := [.int (z (10 * k + 6))]) cx (c_X10_of l K sz o z r V k 6 (by omega)) ok_X10_of dX10_sailor_142 wm_ml_X10_29 rfl mw_m rfl rfl (Nat.le_of_ble_eq_true rfl) ⟨Nat.le_of_ble_eq_true rfl, Nat.le_of_ble_eq_true rfl⟩ rfl ?_
      refine G.iret (pc := 145) cx rfl dX10_sailor_145 ?_ ?_ rfl
      · refine congrArg (fun x => some (Value.int x)) ?_
        (try clear hin9); (try clear cx); refine (if_neg (fun h => h cq5)).trans ?_; rw [tk]; simp [zTellS, *]
      · rfl
    by_cases sw12_10 : q = 10
    · subst sw12_10
      refine G.tableIn (pc := 12) cx dX10_sailor_12 (off := 134) (tgt := 146) (by decide) (by decide) (by decide) (by decide) ?_
      refine G.aload_n (pc := 146) cx dX10_sailor_146 rfl 0 rfl ?_
      refine G.iload_n (pc := 147) cx dX10_sailor_147 rfl 1 rfl ?_
      refine G.bipush (pc := 148) cx dX10_sailor_148 (v := 7) (by decide) ?_
      refine G.callV0 (pc := 150) (rest := []) (st1 := [.int (z (10 * k + 7))]) cx (c_X10_of l K sz o z r V k 7 (by omega)) ok_X10_of dX10_sailor_150 wm_ml_X10_29 rfl mw_m rfl rfl (Nat.le_of_ble_eq_true rfl) ⟨Nat.le_of_ble_eq_true rfl, Nat.le_of_ble_eq_true rfl⟩ rfl ?_
      refine G.iret (pc := 153) cx rfl dX10_sailor_153 ?_ ?_ rfl
      · refine congrArg (fun x => some (Value.int x)) ?_
        (try clear hin9); (try clear cx); refine (if_neg (fun h => h cq5)).trans ?_; rw [tk]; simp [zTellS, *]
      · rfl
    by_cases sw12_11 : q = 11
    · subst sw12_11
      refine G.tableIn (pc := 12) cx dX10_sailor_12 (off := 142) (tgt := 154) (by decide) (by decide) (by decide) (by decide) ?_
      refine G.aload_n (pc := 154) cx dX10_sailor_154 rfl 0 rfl ?_
      refine G.iload_n (pc := 155) cx dX10_sailor_155 rfl 1 rfl ?_
      refine G.bipush (pc := 156) cx dX10_sailor_156 (v := 8) (by decide) ?_
      refine G.callV0 (pc := 158) (rest := []) (st1 := [.int (z (10 * k + 8))]) cx (c_X10_of l K sz o z r V k 8 (by omega)) ok_X10_of dX10_sailor_158 wm_ml_X10_29 rfl mw_m rfl rfl (Nat.le_of_ble_eq_true rfl) ⟨Nat.le_of_ble_eq_true rfl, Nat.le_of_ble_eq_true rfl⟩ rfl ?_
      refine G.ineg (pc := 161) cx dX10_sailor_161 ?_
      refine G.iret (pc := 162) cx rfl dX10_sailor_162 ?_ ?_ rfl
      · refine congrArg (fun x => some (Value.int x)) ?_
        (try clear hin9); (try clear cx); refine (if_neg (fun h => h cq5)).trans ?_; rw [tk]; simp [zTellS, *]
      · rfl
    by_cases sw12_12 : q = 12
    · subst sw12_12
      refine G.tableIn (pc := 12) cx dX10_sailor_12 (off := 151) (tgt := 163) (by decide) (by decide) (by decide) (by decide) ?_
      refine G.aload_n (pc := 163) cx dX10_sailor_163 rfl 0 rfl ?_
      refine G.iload_n (pc := 164) cx dX10_sailor_164 rfl 1 rfl ?_
      refine G.bipush (pc := 165) cx dX10_sailor_165 (v := 9) (by decide) ?_
      refine G.callV0 (pc := 167) (rest := []) (st1 := [.int (z (10 * k + 9))]) cx (c_X10_of l K sz o z r V k 9 (by omega)) ok_X10_of dX10_sailor_167 wm_ml_X10_29 rfl mw_m rfl rfl (Nat.le_of_ble_eq_true rfl) ⟨Nat.le_of_ble_eq_true rfl, Nat.le_of_ble_eq_true rfl⟩ rfl ?_
      refine G.iret (pc := 170) cx rfl dX10_sailor_170 ?_ ?_ rfl
      · refine congrArg (fun x => some (Value.int x)) ?_
        (try clear hin9); (try clear cx); refine (if_neg (fun h => h cq5)).trans ?_; rw [tk]; simp [zTellS, *]
      · rfl
    refine G.tableDef (pc := 12) cx dX10_sailor_12 (tgt := 171) ?_ (by decide) ?_
    · have g0 := sw_ne sw12_0 (by decide : (0 : Int) = (0 : Int32).toInt); have g1 := sw_ne sw12_1 (by decide : (1 : Int) = (1 : Int32).toInt); have g2 := sw_ne sw12_2 (by decide : (2 : Int) = (2 : Int32).toInt); have g3 := sw_ne sw12_3 (by decide : (3 : Int) = (3 : Int32).toInt); have g4 := sw_ne sw12_4 (by decide : (4 : Int) = (4 : Int32).toInt); have g5 := sw_ne sw12_5 (by decide : (5 : Int) = (5 : Int32).toInt); have g6 := sw_ne sw12_6 (by decide : (6 : Int) = (6 : Int32).toInt); have g7 := sw_ne sw12_7 (by decide : (7 : Int) = (7 : Int32).toInt); have g8 := sw_ne sw12_8 (by decide : (8 : Int) = (8 : Int32).toInt); have g9 := sw_ne sw12_9 (by decide : (9 : Int) = (9 : Int32).toInt); have g10 := sw_ne sw12_10 (by decide : (10 : Int) = (10 : Int32).toInt); have g11 := sw_ne sw12_11 (by decide : (11 : Int) = (11 : Int32).toInt); have g12 := sw_ne sw12_12 (by decide : (12 : Int) = (12 : Int32).toInt)
      rcases (show q.toInt < 0 ∨ 12 < q.toInt by omega) with h | h
      · exact Or.inl h
      · exact Or.inr (Or.inl h)
    refine G.ldc (pc := 171) cx dX10_sailor_171 (v := (-1000001)) wm_ct_X10_64 ?_
    refine G.iret (pc := 173) cx rfl dX10_sailor_173 ?_ ?_ rfl
    · refine congrArg (fun x => some (Value.int x)) ?_
      (try clear hin9); (try clear cx); refine (if_neg (fun h => h cq5)).trans ?_; rw [tk]; simp [zTellS, *]
    · rfl
  · skip
    refine G.ldc (pc := 8) cx dX10_sailor_8 (v := (-1000001)) wm_ct_X10_64 ?_
    refine G.iret (pc := 10) cx rfl dX10_sailor_10 ?_ ?_ rfl
    · refine congrArg (fun x => some (Value.int x)) ?_
      (try clear hin9); (try clear cx); exact if_pos cq5
    · rfl
set_option maxHeartbeats 4000000 in
set_option maxRecDepth 100000 in
theorem c_X10_item (l : Launch) (K : KT) (sz : Nat) (o : Nat) (z : Zt) (r : Rt) (V : VW) (i : Int32) (q : Int32)  : Ct l K yX10_item cX10_item 3 (some .int) 2 [.ref o, .int i, .int q] (mw K o z r V) sz (some (.int (zItem z i q))) (mw K o z r V) sz 0 0 := by
  refine Ct.ofG (by decide) (Nat.le_of_ble_eq_true rfl) ?_
  intro p9 e9 s9 m9 a9 b9 t9 c9 cx hin9
  refine G.lv0 (lv2 := [(0, .ref o), (1, .int i), (2, .int q)]) rfl ?_
  refine G.iload_n (pc := 0) cx dX10_item_0 rfl 1 rfl ?_
  refine G.callS0 (pc := 1) (rest := []) (st1 := [.int (b2 (0 ≤ i ∧ i ≤ 5))]) cx (c_X10_isItem l K sz i (mw K o z r V)) ok_X10_isItem dX10_item_1 wm_ml_X10_83 rfl rfl (Nat.le_of_ble_eq_true rfl) ⟨Nat.le_of_ble_eq_true rfl, Nat.le_of_ble_eq_true rfl⟩ rfl ?_
  refine G.if_eqB (pc := 4) cx dX10_item_4 (tgt := 25) (by decide) (fun cq4 => ?_) (fun cq4 => ?_)
  · skip
    refine G.ldc (pc := 25) cx dX10_item_25 (v := (-1000001)) wm_ct_X10_64 ?_
    refine G.iret (pc := 27) cx rfl dX10_item_27 ?_ ?_ rfl
    · refine congrArg (fun x => some (Value.int x)) ?_
      (try clear hin9); (try clear cx); first | exact if_neg (fun h => cq4 h.1) | exact if_neg (fun h => cq13 h.2) | (refine (if_pos ⟨cq4, cq13⟩).trans ?_; rw [tj, tw])
    · rfl
  · skip
    obtain ⟨j, hj, rfl⟩ := item_of cq4
    have tj : (nI j).toNatClampNeg = j := nI_clamp (by omega)
    refine G.iload_n (pc := 7) cx dX10_item_7 rfl 2 rfl ?_
    refine G.iconst (pc := 8) cx dX10_item_8 (v := 0) (by decide) ?_
    refine G.iconst (pc := 9) cx dX10_item_9 (v := 4) (by decide) ?_
    refine G.callS0 (pc := 10) (rest := []) (st1 := [.int (b2 (0 ≤ q ∧ q ≤ 4))]) cx (c_X10_in l K sz q 0 4 (mw K o z r V)) ok_X10_in dX10_item_10 wm_ml_X10_25 rfl rfl (Nat.le_of_ble_eq_true rfl) ⟨Nat.le_of_ble_eq_true rfl, Nat.le_of_ble_eq_true rfl⟩ rfl ?_
    refine G.if_eqB (pc := 13) cx dX10_item_13 (tgt := 25) (by decide) (fun cq13 => ?_) (fun cq13 => ?_)
    · skip
      refine G.ldc (pc := 25) cx dX10_item_25 (v := (-1000001)) wm_ct_X10_64 ?_
      refine G.iret (pc := 27) cx rfl dX10_item_27 ?_ ?_ rfl
      · refine congrArg (fun x => some (Value.int x)) ?_
        (try clear hin9); (try clear cx); first | exact if_neg (fun h => cq4 h.1) | exact if_neg (fun h => cq13 h.2) | (refine (if_pos ⟨cq4, cq13⟩).trans ?_; rw [tj, tw])
      · rfl
    · skip
      obtain ⟨w, hw, rfl⟩ := in_of (n := 4) (by decide) cq13
      have tw : (nI w).toNatClampNeg = w := nI_clamp (by omega)
      refine G.aload_n (pc := 16) cx dX10_item_16 rfl 0 rfl ?_
      refine G.iload_n (pc := 17) cx dX10_item_17 rfl 1 rfl ?_
      refine G.iload_n (pc := 18) cx dX10_item_18 rfl 2 rfl ?_
      refine G.callV0 (pc := 19) (rest := []) (st1 := [.int (z (160 + 5 * j + w))]) cx (c_X10_ofItem l K sz o z r V j w (by omega)) ok_X10_ofItem dX10_item_19 wm_ml_X10_86 rfl mw_m rfl rfl (Nat.le_of_ble_eq_true rfl) ⟨Nat.le_of_ble_eq_true rfl, Nat.le_of_ble_eq_true rfl⟩ rfl ?_
      refine G.goto (pc := 22) cx dX10_item_22 (tgt := 27) (by decide) ?_
      refine G.iret (pc := 27) cx rfl dX10_item_27 ?_ ?_ rfl
      · refine congrArg (fun x => some (Value.int x)) ?_
        (try clear hin9); (try clear cx); first | exact if_neg (fun h => cq4 h.1) | exact if_neg (fun h => cq13 h.2) | (refine (if_pos ⟨cq4, cq13⟩).trans ?_; rw [tj, tw])
      · rfl
set_option maxHeartbeats 4000000 in
set_option maxRecDepth 100000 in
theorem c_X10_book (l : Launch) (K : KT) (sz : Nat) (o : Nat) (z : Zt) (r : Rt) (V : VW) (g : Int32) (q : Int32) (E : Nat) (hE : z 206 = nI E) (hE8 : E ≤ 8) : Ct l K yX10_book cX10_book 3 (some .int) 1 [.ref o, .int g, .int q] (mw K o z r V) sz (some (.int (zBook z g q))) (mw K o z r V) sz 0 0 := by
  refine Ct.ofG (by decide) (Nat.le_of_ble_eq_true rfl) ?_
  intro p9 e9 s9 m9 a9 b9 t9 c9 cx hin9
  refine G.lv0 (lv2 := [(0, .ref o), (1, .int g), (2, .int q)]) rfl ?_
  refine G.iload_n (pc := 0) cx dX10_book_0 rfl 1 rfl ?_
  refine G.if_lt (pc := 1) cx dX10_book_1 (tgt := 13) (by decide) (fun cq1 => ?_) (fun cq1 => ?_)
  · skip
    refine G.ldc (pc := 13) cx dX10_book_13 (v := (-1000001)) wm_ct_X10_64 ?_
    refine G.iret (pc := 15) cx rfl dX10_book_15 ?_ ?_ rfl
    · refine congrArg (fun x => some (Value.int x)) ?_
      (try clear hin9); (try clear cx); first | exact if_pos (Or.inl cq1) | exact if_pos (Or.inr cq10)
    · rfl
  · skip
    obtain ⟨u, hu, rfl⟩ := nI_of cq1
    have tu : (nI u).toNatClampNeg = u := nI_clamp (by omega)
    refine G.iload_n (pc := 4) cx dX10_book_4 rfl 2 rfl ?_
    refine G.iconst (pc := 5) cx dX10_book_5 (v := 0) (by decide) ?_
    refine G.iconst (pc := 6) cx dX10_book_6 (v := 2) (by decide) ?_
    refine G.callS0 (pc := 7) (rest := []) (st1 := [.int (b2 (0 ≤ q ∧ q ≤ 2))]) cx (c_X10_in l K sz q 0 2 (mw K o z r V)) ok_X10_in dX10_book_7 wm_ml_X10_25 rfl rfl (Nat.le_of_ble_eq_true rfl) ⟨Nat.le_of_ble_eq_true rfl, Nat.le_of_ble_eq_true rfl⟩ rfl ?_
    refine G.if_neB (pc := 10) cx dX10_book_10 (tgt := 16) (by decide) (fun cq10 => ?_) (fun cq10 => ?_)
    · skip
      obtain ⟨w, hw, rfl⟩ := in_of (n := 2) (by decide) cq10
      have tw : (nI w).toNatClampNeg = w := nI_clamp (by omega)
      refine G.iload_n (pc := 16) cx dX10_book_16 rfl 1 rfl ?_
      refine G.aload_n (pc := 17) cx dX10_book_17 rfl 0 rfl ?_
      refine G.getM (pc := 18) cx dX10_book_18 0 wm_fl_X10_7 (by decide) rfl ?_
      refine G.sipush (pc := 21) cx dX10_book_21 (v := 206) (by decide) ?_
      refine G.ialdV (pc := 24) cx dX10_book_24 mw_z (j := 206) rfl (by omega) (by decide) ((cut_at (by omega)).trans (hE)) ?_
      refine G.icmp_geN (pc := 25) cx u E (by omega) (by omega) dX10_book_25 (tgt := 45) (by decide) (fun cq25 => ?_) (fun cq25 => ?_)
      · skip
        refine G.ldc (pc := 45) cx dX10_book_45 (v := (-1000004)) wm_ct_X10_182 ?_
        refine G.iret (pc := 47) cx rfl dX10_book_47 ?_ ?_ rfl
        · refine congrArg (fun x => some (Value.int x)) ?_
          (try clear hin9); (try clear cx); refine (if_neg (fun h => h.elim cq1 (fun h => h cq10))).trans ?_; rw [hE, tu, tw]; first | exact if_pos ((nI_ltI (by omega) (by omega)).mpr cq25) | exact if_neg (mt (nI_ltI (by omega) (by omega)).mp (by omega))
        · rfl
      · skip
        refine G.aload_n (pc := 28) cx dX10_book_28 rfl 0 rfl ?_
        refine G.getM (pc := 29) cx dX10_book_29 0 wm_fl_X10_7 (by decide) rfl ?_
        refine G.sipush (pc := 32) cx dX10_book_32 (v := 207) (by decide) ?_
        refine G.iconst (pc := 35) cx dX10_book_35 (v := 3) (by decide) ?_
        refine G.iload_n (pc := 36) cx dX10_book_36 rfl 1 rfl ?_
        refine G.imulN (pc := 37) cx dX10_book_37 3 u ?_
        refine G.iaddN (pc := 38) cx dX10_book_38 207 (3 * u) ?_
        refine G.iload_n (pc := 39) cx dX10_book_39 rfl 2 rfl ?_
        refine G.iaddN (pc := 40) cx dX10_book_40 (207 + (3 * u)) w ?_
        refine G.ialdV (pc := 41) cx dX10_book_41 mw_z (j := ((207 + (3 * u)) + w)) rfl (by omega) (by decide) (cut_at (by omega)) ?_
        refine G.goto (pc := 42) cx dX10_book_42 (tgt := 47) (by decide) ?_
        refine G.iret (pc := 47) cx rfl dX10_book_47 ?_ ?_ rfl
        · refine congrArg (fun x => some (Value.int x)) ?_
          (try clear hin9); (try clear cx); refine (if_neg (fun h => h.elim cq1 (fun h => h cq10))).trans ?_; rw [hE, tu, tw]; first | exact if_pos ((nI_ltI (by omega) (by omega)).mpr cq25) | exact if_neg (mt (nI_ltI (by omega) (by omega)).mp (by omega))
        · rfl
    · skip
      refine G.ldc (pc := 13) cx dX10_book_13 (v := (-1000001)) wm_ct_X10_64 ?_
      refine G.iret (pc := 15) cx rfl dX10_book_15 ?_ ?_ rfl
      · refine congrArg (fun x => some (Value.int x)) ?_
        (try clear hin9); (try clear cx); first | exact if_pos (Or.inl cq1) | exact if_pos (Or.inr cq10)
      · rfl
set_option maxHeartbeats 4000000 in
set_option maxRecDepth 100000 in
theorem c_X10_why (l : Launch) (K : KT) (sz : Nat) (o : Nat) (z : Zt) (r : Rt) (V : VW) (a : Int32) (i : Int32) (m : Int32) (N : Nat) (hN : z 194 = nI N) (h16 : N ≤ 16) : Ct l K yX10_why cX10_why 4 (some .int) 4 [.ref o, .int a, .int i, .int m] (mw K o z r V) sz (some (.int (zWhyP z a i m))) (mw K o z r V) sz 0 0 := by
  refine Ct.ofG (by decide) (Nat.le_of_ble_eq_true rfl) ?_
  intro p9 e9 s9 m9 a9 b9 t9 c9 cx hin9
  refine G.lv0 (lv2 := [(0, .ref o), (1, .int a), (2, .int i), (3, .int m)]) rfl ?_
  refine G.aload_n (pc := 0) cx dX10_why_0 rfl 0 rfl ?_
  refine G.iload_n (pc := 1) cx dX10_why_1 rfl 1 rfl ?_
  refine G.callV0 (pc := 2) (rest := []) (st1 := [.int (b2 (0 ≤ a ∧ a ≤ z 194 - 1))]) cx (c_X10_isSailor l K sz o z r V a) ok_X10_isSailor dX10_why_2 wm_ml_X10_98 rfl mw_m rfl rfl (Nat.le_of_ble_eq_true rfl) ⟨Nat.le_of_ble_eq_true rfl, Nat.le_of_ble_eq_true rfl⟩ rfl ?_
  refine G.if_eqB (pc := 5) cx dX10_why_5 (tgt := 35) (by decide) (fun cq5 => ?_) (fun cq5 => ?_)
  · skip
    refine G.ldc (pc := 35) cx dX10_why_35 (v := (-1000001)) wm_ct_X10_64 ?_
    refine G.iret (pc := 37) cx rfl dX10_why_37 ?_ ?_ rfl
    · refine congrArg (fun x => some (Value.int x)) ?_
      (try clear hin9); (try clear cx); first | exact if_neg (fun h => cq5 h.1) | exact if_neg (fun h => cq12 h.2.1) | exact if_neg (fun h => cq22 h.2.2) | (refine (if_pos ⟨cq5, cq12, cq22⟩).trans ?_; rw [tk, tj])
    · rfl
  · skip
    obtain ⟨k, hk, rfl⟩ := sail_of hN h16 cq5
    have tk : (nI k).toNatClampNeg = k := nI_clamp (by omega)
    refine G.iload_n (pc := 8) cx dX10_why_8 rfl 2 rfl ?_
    refine G.callS0 (pc := 9) (rest := []) (st1 := [.int (b2 (0 ≤ i ∧ i ≤ 5))]) cx (c_X10_isItem l K sz i (mw K o z r V)) ok_X10_isItem dX10_why_9 wm_ml_X10_83 rfl rfl (Nat.le_of_ble_eq_true rfl) ⟨Nat.le_of_ble_eq_true rfl, Nat.le_of_ble_eq_true rfl⟩ rfl ?_
    refine G.if_eqB (pc := 12) cx dX10_why_12 (tgt := 35) (by decide) (fun cq12 => ?_) (fun cq12 => ?_)
    · skip
      refine G.ldc (pc := 35) cx dX10_why_35 (v := (-1000001)) wm_ct_X10_64 ?_
      refine G.iret (pc := 37) cx rfl dX10_why_37 ?_ ?_ rfl
      · refine congrArg (fun x => some (Value.int x)) ?_
        (try clear hin9); (try clear cx); first | exact if_neg (fun h => cq5 h.1) | exact if_neg (fun h => cq12 h.2.1) | exact if_neg (fun h => cq22 h.2.2) | (refine (if_pos ⟨cq5, cq12, cq22⟩).trans ?_; rw [tk, tj])
      · rfl
    · skip
      obtain ⟨j, hj, rfl⟩ := item_of cq12
      have tj : (nI j).toNatClampNeg = j := nI_clamp (by omega)
      refine G.iload_n (pc := 15) cx dX10_why_15 rfl 3 rfl ?_
      refine G.iconst (pc := 16) cx dX10_why_16 (v := 1) (by decide) ?_
      refine G.bipush (pc := 17) cx dX10_why_17 (v := 99) (by decide) ?_
      refine G.callS0 (pc := 19) (rest := []) (st1 := [.int (b2 (1 ≤ m ∧ m ≤ 99))]) cx (c_X10_in l K sz m 1 99 (mw K o z r V)) ok_X10_in dX10_why_19 wm_ml_X10_25 rfl rfl (Nat.le_of_ble_eq_true rfl) ⟨Nat.le_of_ble_eq_true rfl, Nat.le_of_ble_eq_true rfl⟩ rfl ?_
      refine G.if_eqB (pc := 22) cx dX10_why_22 (tgt := 35) (by decide) (fun cq22 => ?_) (fun cq22 => ?_)
      · skip
        refine G.ldc (pc := 35) cx dX10_why_35 (v := (-1000001)) wm_ct_X10_64 ?_
        refine G.iret (pc := 37) cx rfl dX10_why_37 ?_ ?_ rfl
        · refine congrArg (fun x => some (Value.int x)) ?_
          (try clear hin9); (try clear cx); first | exact if_neg (fun h => cq5 h.1) | exact if_neg (fun h => cq12 h.2.1) | exact if_neg (fun h => cq22 h.2.2) | (refine (if_pos ⟨cq5, cq12, cq22⟩).trans ?_; rw [tk, tj])
        · rfl
      · skip
        refine G.aload_n (pc := 25) cx dX10_why_25 rfl 0 rfl ?_
        refine G.iload_n (pc := 26) cx dX10_why_26 rfl 1 rfl ?_
        refine G.iload_n (pc := 27) cx dX10_why_27 rfl 2 rfl ?_
        refine G.iload_n (pc := 28) cx dX10_why_28 rfl 3 rfl ?_
        refine G.callV0 (pc := 29) (rest := []) (st1 := [.int (zWhy z k j m)]) cx (c_X10_whyNot l K sz o z r V k j m (by omega) (by omega)) ok_X10_whyNot dX10_why_29 wm_ml_X10_101 rfl mw_m rfl rfl (Nat.le_of_ble_eq_true rfl) ⟨Nat.le_of_ble_eq_true rfl, Nat.le_of_ble_eq_true rfl⟩ rfl ?_
        refine G.goto (pc := 32) cx dX10_why_32 (tgt := 37) (by decide) ?_
        refine G.iret (pc := 37) cx rfl dX10_why_37 ?_ ?_ rfl
        · refine congrArg (fun x => some (Value.int x)) ?_
          (try clear hin9); (try clear cx); first | exact if_neg (fun h => cq5 h.1) | exact if_neg (fun h => cq12 h.2.1) | exact if_neg (fun h => cq22 h.2.2) | (refine (if_pos ⟨cq5, cq12, cq22⟩).trans ?_; rw [tk, tj])
        · rfl
set_option maxHeartbeats 4000000 in
set_option maxRecDepth 100000 in
theorem c_X10_most (l : Launch) (K : KT) (sz : Nat) (o : Nat) (z : Zt) (r : Rt) (V : VW) (a : Int32) (i : Int32) (N : Nat) (hN : z 194 = nI N) (h16 : N ≤ 16) : Ct l K yX10_most cX10_most 4 (some .int) 4 [.ref o, .int a, .int i] (mw K o z r V) sz (some (.int (zMost z a i))) (mw K o z r V) sz 0 0 := by
  refine Ct.ofG (by decide) (Nat.le_of_ble_eq_true rfl) ?_
  intro p9 e9 s9 m9 a9 b9 t9 c9 cx hin9
  refine G.lv0 (lv2 := [(0, .ref o), (1, .int a), (2, .int i)]) rfl ?_
  refine G.aload_n (pc := 0) cx dX10_most_0 rfl 0 rfl ?_
  refine G.iload_n (pc := 1) cx dX10_most_1 rfl 1 rfl ?_
  refine G.callV0 (pc := 2) (rest := []) (st1 := [.int (b2 (0 ≤ a ∧ a ≤ z 194 - 1))]) cx (c_X10_isSailor l K sz o z r V a) ok_X10_isSailor dX10_most_2 wm_ml_X10_98 rfl mw_m rfl rfl (Nat.le_of_ble_eq_true rfl) ⟨Nat.le_of_ble_eq_true rfl, Nat.le_of_ble_eq_true rfl⟩ rfl ?_
  refine G.if_eqB (pc := 5) cx dX10_most_5 (tgt := 15) (by decide) (fun cq5 => ?_) (fun cq5 => ?_)
  · skip
    refine G.ldc (pc := 15) cx dX10_most_15 (v := (-1000001)) wm_ct_X10_64 ?_
    refine G.iret (pc := 17) cx rfl dX10_most_17 ?_ ?_ rfl
    · refine congrArg (fun x => some (Value.int x)) ?_
      (try clear hin9); (try clear cx); first | exact if_pos (Or.inl cq5) | exact if_pos (Or.inr cq12)
    · rfl
  · skip
    obtain ⟨k, hk, rfl⟩ := sail_of hN h16 cq5
    have tk : (nI k).toNatClampNeg = k := nI_clamp (by omega)
    refine G.iload_n (pc := 8) cx dX10_most_8 rfl 2 rfl ?_
    refine G.callS0 (pc := 9) (rest := []) (st1 := [.int (b2 (0 ≤ i ∧ i ≤ 5))]) cx (c_X10_isItem l K sz i (mw K o z r V)) ok_X10_isItem dX10_most_9 wm_ml_X10_83 rfl rfl (Nat.le_of_ble_eq_true rfl) ⟨Nat.le_of_ble_eq_true rfl, Nat.le_of_ble_eq_true rfl⟩ rfl ?_
    refine G.if_neB (pc := 12) cx dX10_most_12 (tgt := 18) (by decide) (fun cq12 => ?_) (fun cq12 => ?_)
    · skip
      obtain ⟨j, hj, rfl⟩ := item_of cq12
      have tj : (nI j).toNatClampNeg = j := nI_clamp (by omega)
      refine G.iconst (pc := 18) cx dX10_most_18 (v := 0) (by decide) ?_
      refine G.istore_n (pc := 19) cx dX10_most_19 rfl (by decide) rfl ?_
      have L20_1 : ∀ (f k20 : Nat), 99 - k20 < f → k20 ≤ 99 → (zMostF z k j (99 - k20) k20 = zMostF z k j 99 0) → G K p9 l e9 (rmL 4 0 0) s9 m9 a9 b9 t9 c9 (MQ b9 (QCt K (some (.int (zMost z (nI k) (nI j)))) (mw K o z r V) sz) a9 s9 0 0 (kA K)) 4 (mw K o z r V) sz 0 0 20 [(3, .int (nI k20)), (0, .ref o), (1, .int (nI k)), (2, .int (nI j))] [] := by
        intro f
        induction f with
        | zero => intro k20 h9; omega
        | succ f ih20 =>
          intro k20 h920 h820 hM
          refine G.iload_n (pc := 20) cx dX10_most_20 rfl 0 rfl ?_
          refine G.bipush (pc := 21) cx dX10_most_21 (v := 99) (by decide) ?_
          refine G.icmp_geN (pc := 23) cx k20 99 (by omega) (by omega) dX10_most_23 (tgt := 44) (by decide) (fun cq23 => ?_) (fun cq23 => ?_)
          · skip
            have ex20 : k20 = 99 := by omega
            try rw [ex20]
            refine G.iload_n (pc := 44) cx dX10_most_44 rfl 0 rfl ?_
            refine G.iret (pc := 45) cx rfl dX10_most_45 ?_ ?_ rfl
            · refine congrArg (fun x => some (Value.int x)) ?_
              (try clear L20_1); (try clear ih20); (try clear hin9); (try clear cx); refine (if_neg (fun h => h.elim (fun h => h cq5) (fun h => h cq12))).trans ?_; rw [tk, tj, ← hM]; first | (subst ex20; rfl) | (rw [show 99 - k20 = 99 - (k20 + 1) + 1 by omega]; simp only [zMostF]; rw [if_neg (fun h => cq35 h.2)])
            · rfl
          · skip
            refine G.aload_n (pc := 26) cx dX10_most_26 rfl 1 rfl ?_
            refine G.iload_n (pc := 27) cx dX10_most_27 rfl 2 rfl ?_
            refine G.iload_n (pc := 28) cx dX10_most_28 rfl 3 rfl ?_
            refine G.iload_n (pc := 29) cx dX10_most_29 rfl 0 rfl ?_
            refine G.iconst (pc := 30) cx dX10_most_30 (v := 1) (by decide) ?_
            refine G.iaddN (pc := 31) cx dX10_most_31 k20 1 ?_
            refine G.callV0 (pc := 32) (rest := []) (st1 := [.int (zWhy z k j (nI (k20 + 1)))]) cx (c_X10_whyNot l K sz o z r V k j (nI (k20 + 1)) (by omega) (by omega)) ok_X10_whyNot dX10_most_32 wm_ml_X10_101 rfl mw_m rfl rfl (Nat.le_of_ble_eq_true rfl) ⟨Nat.le_of_ble_eq_true rfl, Nat.le_of_ble_eq_true rfl⟩ rfl ?_
            refine G.if_ne (pc := 35) cx dX10_most_35 (tgt := 44) (by decide) (fun cq35 => ?_) (fun cq35 => ?_)
            · skip
              refine G.iload_n (pc := 44) cx dX10_most_44 rfl 0 rfl ?_
              refine G.iret (pc := 45) cx rfl dX10_most_45 ?_ ?_ rfl
              · refine congrArg (fun x => some (Value.int x)) ?_
                (try clear L20_1); (try clear ih20); (try clear hin9); (try clear cx); refine (if_neg (fun h => h.elim (fun h => h cq5) (fun h => h cq12))).trans ?_; rw [tk, tj, ← hM]; first | (subst ex20; rfl) | (rw [show 99 - k20 = 99 - (k20 + 1) + 1 by omega]; simp only [zMostF]; rw [if_neg (fun h => cq35 h.2)])
              · rfl
            · skip
              refine G.iinc (pc := 38) cx dX10_most_38 (v := nI (k20 + 1)) (k := 0) rfl (nI_add k20 1) (by decide) rfl ?_
              refine G.goto (pc := 41) cx dX10_most_41 (tgt := 20) (by decide) ?_
              exact ih20 (k20 + 1) (by omega) (by omega) (by rw [← hM]; conv => rhs; rw [show 99 - k20 = 99 - (k20 + 1) + 1 by omega]; simp only [zMostF]; rw [if_pos ⟨cq23, cq35⟩])
      refine G.lv0 (lv2 := [(3, .int (nI 0)), (0, .ref o), (1, .int (nI k)), (2, .int (nI j))]) (congrArg (fun q9 => ([(3, .int q9), (0, .ref o), (1, .int (nI k)), (2, .int (nI j))] : List (Nat × Value))) (show (0 : Int32) = nI 0 from by (try clear L20_1); (try clear ih20); (try clear hin9); (try clear cx); first | rfl | (refine b2_t ?_; grind) | (refine b2_f ?_; grind) | (refine (b2_t ?_).symm; grind) | (refine (b2_f ?_).symm; grind) | (simp [*]; done) | (simp_all; done) | grind)) ?_
      exact L20_1 (99 + 1) 0 (by omega) (by omega) (by rfl)
    · skip
      refine G.ldc (pc := 15) cx dX10_most_15 (v := (-1000001)) wm_ct_X10_64 ?_
      refine G.iret (pc := 17) cx rfl dX10_most_17 ?_ ?_ rfl
      · refine congrArg (fun x => some (Value.int x)) ?_
        (try clear L20_1); (try clear ih20); (try clear hin9); (try clear cx); first | exact if_pos (Or.inl cq5) | exact if_pos (Or.inr cq12)
      · rfl
