def zPriceC (z : Zt) (m c : Int32) : Int32 := c + c * cBuy1 z m c (203 + 1) / 100
set_option maxHeartbeats 4000000 in
set_option maxRecDepth 100000 in
theorem c_X0_findSailor (l : Launch) (K : KT) (sz : Nat) (b : Nat) (z : Zt) (V : VW) (N : Nat) (k : Nat) (hN : z 194 = nI N) (h16 : N ≤ 16) (hk : k < N) : Ct l K yX0_findSailor cX0_findSailor 2 (some (.object "PurserLedgers$Sailor")) 0 [.ref b, .int (nI k)] (bw K b z V) sz (some (.ref (b + 2 + k))) (bw K b z V) sz 0 0 := by
  refine Ct.ofG (by decide) (Nat.le_of_ble_eq_true rfl) ?_
  intro p9 e9 s9 m9 a9 b9 t9 c9 cx hin9
  refine G.lv0 (lv2 := [(0, .ref b), (1, .int (nI k))]) rfl ?_
  refine G.iload_n (pc := 0) cx dX0_findSailor_0 rfl 1 rfl ?_
  refine G.if_ltN (pc := 1) cx k (by omega) dX0_findSailor_1 (tgt := 30) (by decide) ?_
  refine G.iload_n (pc := 4) cx dX0_findSailor_4 rfl 1 rfl ?_
  refine G.aload_n (pc := 5) cx dX0_findSailor_5 rfl 0 rfl ?_
  refine G.getB (pc := 6) cx dX0_findSailor_6 5 wm_fl_X0_63 (by decide) (congrArg (fun x => some (Value.int x)) (hN)) ?_
  refine G.icmp_geN (pc := 9) cx k N (by omega) (by omega) dX0_findSailor_9 (tgt := 30) (by decide) (fun cq9 => ?_) (fun cq9 => ?_)
  · skip
    exact absurd cq9 (by omega)
  · skip
    refine G.iload_n (pc := 12) cx dX0_findSailor_12 rfl 1 rfl ?_
    refine G.aload_n (pc := 13) cx dX0_findSailor_13 rfl 0 rfl ?_
    refine G.getB (pc := 14) cx dX0_findSailor_14 0 wm_fl_X0_11 (by decide) rfl ?_
    refine G.alenV (pc := 17) cx dX0_findSailor_17 1 rfl bw_crew (v := 16) rfl ?_
    refine G.icmp_geN (pc := 18) cx k 16 (by omega) (by omega) dX0_findSailor_18 (tgt := 30) (by decide) (fun cq18 => ?_) (fun cq18 => ?_)
    · skip
      exact absurd cq18 (by omega)
    · skip
      refine G.aload_n (pc := 21) cx dX0_findSailor_21 rfl 0 rfl ?_
      refine G.getB (pc := 22) cx dX0_findSailor_22 0 wm_fl_X0_11 (by decide) rfl ?_
      refine G.iload_n (pc := 25) cx dX0_findSailor_25 rfl 1 rfl ?_
      refine G.aaldV (pc := 26) cx dX0_findSailor_26 1 rfl bw_crew (j := k) rfl (by omega) (by decide) rfl ?_
      refine G.goto (pc := 27) cx dX0_findSailor_27 (tgt := 31) (by decide) ?_
      refine G.aretq (pc := 31) cx rfl (Or.inl ⟨_, rfl⟩) (Or.inr ⟨_, rfl⟩) dX0_findSailor_31 ?_ ?_ rfl
      · rfl
      · rfl
set_option maxHeartbeats 4000000 in
set_option maxRecDepth 100000 in
theorem c_X0_findSailorN (l : Launch) (K : KT) (sz : Nat) (b : Nat) (z : Zt) (V : VW) (N : Nat) (a : Int32) (hN : z 194 = nI N) (h16 : N ≤ 16) (hS : ¬ (0 ≤ a ∧ a ≤ z 194 - 1)) : Ct l K yX0_findSailor cX0_findSailor 2 (some (.object "PurserLedgers$Sailor")) 0 [.ref b, .int a] (bw K b z V) sz (some (.null)) (bw K b z V) sz 0 0 := by
  refine Ct.ofG (by decide) (Nat.le_of_ble_eq_true rfl) ?_
  intro p9 e9 s9 m9 a9 b9 t9 c9 cx hin9
  refine G.lv0 (lv2 := [(0, .ref b), (1, .int a)]) rfl ?_
  refine G.iload_n (pc := 0) cx dX0_findSailor_0 rfl 1 rfl ?_
  refine G.if_lt (pc := 1) cx dX0_findSailor_1 (tgt := 30) (by decide) (fun cq1 => ?_) (fun cq1 => ?_)
  · skip
    refine G.null (pc := 30) cx dX0_findSailor_30 ?_
    refine G.aretq (pc := 31) cx rfl (Or.inl ⟨_, rfl⟩) (Or.inl rfl) dX0_findSailor_31 ?_ ?_ rfl
    · rfl
    · rfl
  · skip
    refine G.iload_n (pc := 4) cx dX0_findSailor_4 rfl 1 rfl ?_
    refine G.aload_n (pc := 5) cx dX0_findSailor_5 rfl 0 rfl ?_
    refine G.getB (pc := 6) cx dX0_findSailor_6 5 wm_fl_X0_63 (by decide) (congrArg (fun x => some (Value.int x)) (hN)) ?_
    refine G.icmp_ge (pc := 9) cx dX0_findSailor_9 (tgt := 30) (by decide) (fun cq9 => ?_) (fun cq9 => ?_)
    · skip
      refine G.null (pc := 30) cx dX0_findSailor_30 ?_
      refine G.aretq (pc := 31) cx rfl (Or.inl ⟨_, rfl⟩) (Or.inl rfl) dX0_findSailor_31 ?_ ?_ rfl
      · rfl
      · rfl
    · skip
      exact absurd (by rw [hN]; exact lt_sub1 h16 cq1 cq9) hS
set_option maxHeartbeats 4000000 in
set_option maxRecDepth 100000 in
theorem c_X0_findItem (l : Launch) (K : KT) (sz : Nat) (b : Nat) (z : Zt) (V : VW) (k : Nat) (hk : k < 6) : Ct l K yX0_findItem cX0_findItem 2 (some (.object "PurserLedgers$Item")) 0 [.ref b, .int (nI k)] (bw K b z V) sz (some (.ref (b + 19 + k))) (bw K b z V) sz 0 0 := by
  refine Ct.ofG (by decide) (Nat.le_of_ble_eq_true rfl) ?_
  intro p9 e9 s9 m9 a9 b9 t9 c9 cx hin9
  refine G.lv0 (lv2 := [(0, .ref b), (1, .int (nI k))]) rfl ?_
  refine G.iload_n (pc := 0) cx dX0_findItem_0 rfl 1 rfl ?_
  refine G.if_ltN (pc := 1) cx k (by omega) dX0_findItem_1 (tgt := 22) (by decide) ?_
  refine G.iload_n (pc := 4) cx dX0_findItem_4 rfl 1 rfl ?_
  refine G.aload_n (pc := 5) cx dX0_findItem_5 rfl 0 rfl ?_
  refine G.getB (pc := 6) cx dX0_findItem_6 1 wm_fl_X0_20 (by decide) rfl ?_
  refine G.alenV (pc := 9) cx dX0_findItem_9 2 rfl bw_chest (v := 6) rfl ?_
  refine G.icmp_geN (pc := 10) cx k 6 (by omega) (by omega) dX0_findItem_10 (tgt := 22) (by decide) (fun cq10 => ?_) (fun cq10 => ?_)
  · skip
    exact absurd cq10 (by omega)
  · skip
    refine G.aload_n (pc := 13) cx dX0_findItem_13 rfl 0 rfl ?_
    refine G.getB (pc := 14) cx dX0_findItem_14 1 wm_fl_X0_20 (by decide) rfl ?_
    refine G.iload_n (pc := 17) cx dX0_findItem_17 rfl 1 rfl ?_
    refine G.aaldV (pc := 18) cx dX0_findItem_18 2 rfl bw_chest (j := k) rfl (by omega) (by decide) rfl ?_
    refine G.goto (pc := 19) cx dX0_findItem_19 (tgt := 23) (by decide) ?_
    refine G.aretq (pc := 23) cx rfl (Or.inl ⟨_, rfl⟩) (Or.inr ⟨_, rfl⟩) dX0_findItem_23 ?_ ?_ rfl
    · rfl
    · rfl
set_option maxHeartbeats 4000000 in
set_option maxRecDepth 100000 in
theorem c_X0_findItemN (l : Launch) (K : KT) (sz : Nat) (b : Nat) (z : Zt) (V : VW) (i : Int32) (hS : ¬ (0 ≤ i ∧ i ≤ 5)) : Ct l K yX0_findItem cX0_findItem 2 (some (.object "PurserLedgers$Item")) 0 [.ref b, .int i] (bw K b z V) sz (some (.null)) (bw K b z V) sz 0 0 := by
  refine Ct.ofG (by decide) (Nat.le_of_ble_eq_true rfl) ?_
  intro p9 e9 s9 m9 a9 b9 t9 c9 cx hin9
  refine G.lv0 (lv2 := [(0, .ref b), (1, .int i)]) rfl ?_
  refine G.iload_n (pc := 0) cx dX0_findItem_0 rfl 1 rfl ?_
  refine G.if_lt (pc := 1) cx dX0_findItem_1 (tgt := 22) (by decide) (fun cq1 => ?_) (fun cq1 => ?_)
  · skip
    refine G.null (pc := 22) cx dX0_findItem_22 ?_
    refine G.aretq (pc := 23) cx rfl (Or.inl ⟨_, rfl⟩) (Or.inl rfl) dX0_findItem_23 ?_ ?_ rfl
    · rfl
    · rfl
  · skip
    refine G.iload_n (pc := 4) cx dX0_findItem_4 rfl 1 rfl ?_
    refine G.aload_n (pc := 5) cx dX0_findItem_5 rfl 0 rfl ?_
    refine G.getB (pc := 6) cx dX0_findItem_6 1 wm_fl_X0_20 (by decide) rfl ?_
    refine G.alenV (pc := 9) cx dX0_findItem_9 2 rfl bw_chest (v := 6) rfl ?_
    refine G.icmp_ge (pc := 10) cx dX0_findItem_10 (tgt := 22) (by decide) (fun cq10 => ?_) (fun cq10 => ?_)
    · skip
      refine G.null (pc := 22) cx dX0_findItem_22 ?_
      refine G.aretq (pc := 23) cx rfl (Or.inl ⟨_, rfl⟩) (Or.inl rfl) dX0_findItem_23 ?_ ?_ rfl
      · rfl
      · rfl
    · skip
      exact absurd (lt_6 cq1 cq10) hS
set_option maxHeartbeats 4000000 in
set_option maxRecDepth 100000 in
theorem c_X0_setting (l : Launch) (K : KT) (sz : Nat) (b : Nat) (z : Zt) (V : VW) (u : Nat) (hu : u < 3) : Ct l K yX0_setting cX0_setting 2 (some .int) 0 [.ref b, .int (nI u)] (bw K b z V) sz (some (.int (z (203 + u)))) (bw K b z V) sz 0 0 := by
  refine Ct.ofG (by decide) (Nat.le_of_ble_eq_true rfl) ?_
  intro p9 e9 s9 m9 a9 b9 t9 c9 cx hin9
  refine G.lv0 (lv2 := [(0, .ref b), (1, .int (nI u))]) rfl ?_
  refine G.iload_n (pc := 0) cx dX0_setting_0 rfl 1 rfl ?_
  refine G.if_ltN (pc := 1) cx u (by omega) dX0_setting_1 (tgt := 22) (by decide) ?_
  refine G.iload_n (pc := 4) cx dX0_setting_4 rfl 1 rfl ?_
  refine G.aload_n (pc := 5) cx dX0_setting_5 rfl 0 rfl ?_
  refine G.getB (pc := 6) cx dX0_setting_6 2 wm_fl_X0_29 (by decide) rfl ?_
  refine G.alenV (pc := 9) cx dX0_setting_9 0 rfl bw_set (v := 3) rfl ?_
  refine G.icmp_geN (pc := 10) cx u 3 (by omega) (by omega) dX0_setting_10 (tgt := 22) (by decide) (fun cq10 => ?_) (fun cq10 => ?_)
  · skip
    have nq10 := Nat.not_lt.mpr cq10
    exact absurd cq10 (by omega)
  · skip
    have nq10 := Nat.not_le.mpr cq10
    refine G.aload_n (pc := 13) cx dX0_setting_13 rfl 0 rfl ?_
    refine G.getB (pc := 14) cx dX0_setting_14 2 wm_fl_X0_29 (by decide) rfl ?_
    refine G.iload_n (pc := 17) cx dX0_setting_17 rfl 1 rfl ?_
    refine G.ialdV (pc := 18) cx dX0_setting_18 bw_set (j := u) rfl (by omega) (by decide) (setF_at (by omega)) ?_
    refine G.goto (pc := 19) cx dX0_setting_19 (tgt := 23) (by decide) ?_
    refine G.iret (pc := 23) cx rfl dX0_setting_23 ?_ ?_ rfl
    · rfl
    · rfl
set_option maxHeartbeats 4000000 in
set_option maxRecDepth 100000 in
theorem c_X0_signOn (l : Launch) (K : KT) (sz : Nat) (b : Nat) (z : Zt) (V : VW) (q : Int32) (w : Int32) (N : Nat) (hN : z 194 = nI N) (h16 : N ≤ 16) : Ct l K yX0_signOn cX0_signOn 4 (some .int) 2 [.ref b, .int q, .int w] (bw K b z V) sz (some (.int (if cNoSign z N q w < 0 then cNoSign z N q w else nI N))) (bw K b (if cNoSign z N q w < 0 then z else cDoSign z N q w) V) sz 0 0 := by
  refine Ct.ofG (by decide) (Nat.le_of_ble_eq_true rfl) ?_
  intro p9 e9 s9 m9 a9 b9 t9 c9 cx hin9
  refine G.lv0 (lv2 := [(0, .ref b), (1, .int q), (2, .int w)]) rfl ?_
  refine G.iload_n (pc := 0) cx dX0_signOn_0 rfl 1 rfl ?_
  refine G.iconst (pc := 1) cx dX0_signOn_1 (v := 0) (by decide) ?_
  refine G.iconst (pc := 2) cx dX0_signOn_2 (v := 3) (by decide) ?_
  refine G.callSN0 (pc := 3) (rest := []) (st1 := [.int (b2 (0 ≤ q ∧ q ≤ 3))]) cx (c_X9_within l K sz q 0 3 (bw K b z V)) ok_X9_within dX0_signOn_3 (by decide +kernel)  rfl (Nat.le_of_ble_eq_true rfl) ⟨Nat.le_of_ble_eq_true rfl, Nat.le_of_ble_eq_true rfl⟩ rfl ?_
  refine G.if_eqB (pc := 6) cx dX0_signOn_6 (tgt := 18) (by decide) (fun cq6 => ?_) (fun cq6 => ?_)
  · skip
    refine G.ldc (pc := 18) cx dX0_signOn_18 (v := (-1000001)) wm_ct_X0_84 ?_
    refine G.iret (pc := 20) cx rfl dX0_signOn_20 ?_ ?_ rfl
    · refine congrArg (fun x => some (Value.int x)) ?_
      (try clear hin9); (try clear cx); (try clear hN); first | (simp [cNoSign, cDoSign, zBegin_o, upd, *]; done) | (simp_all [cNoSign, cDoSign, zBegin_o, upd]; done)
    · refine congrArg (fun x => bw K b x V) ?_
      (try clear hin9); (try clear cx); (try clear hN); first | (simp [cNoSign, cDoSign, zBegin_o, upd, *]; done) | (simp_all [cNoSign, cDoSign, zBegin_o, upd]; done)
  · skip
    refine G.iload_n (pc := 9) cx dX0_signOn_9 rfl 2 rfl ?_
    refine G.iconst (pc := 10) cx dX0_signOn_10 (v := 0) (by decide) ?_
    refine G.iconst (pc := 11) cx dX0_signOn_11 (v := 1) (by decide) ?_
    refine G.callSN0 (pc := 12) (rest := []) (st1 := [.int (b2 (0 ≤ w ∧ w ≤ 1))]) cx (c_X9_within l K sz w 0 1 (bw K b z V)) ok_X9_within dX0_signOn_12 (by decide +kernel)  rfl (Nat.le_of_ble_eq_true rfl) ⟨Nat.le_of_ble_eq_true rfl, Nat.le_of_ble_eq_true rfl⟩ rfl ?_
    refine G.if_neB (pc := 15) cx dX0_signOn_15 (tgt := 21) (by decide) (fun cq15 => ?_) (fun cq15 => ?_)
    · skip
      refine G.aload_n (pc := 21) cx dX0_signOn_21 rfl 0 rfl ?_
      refine G.getB (pc := 22) cx dX0_signOn_22 9 wm_fl_X0_76 (by decide) rfl ?_
      refine G.if_eq (pc := 25) cx dX0_signOn_25 (tgt := 31) (by decide) (fun cq25 => ?_) (fun cq25 => ?_)
      · skip
        refine G.aload_n (pc := 31) cx dX0_signOn_31 rfl 0 rfl ?_
        refine G.getB (pc := 32) cx dX0_signOn_32 5 wm_fl_X0_63 (by decide) (congrArg (fun x => some (Value.int x)) (hN)) ?_
        refine G.istore_n (pc := 35) cx dX0_signOn_35 rfl (by decide) rfl ?_
        refine G.iload_n (pc := 36) cx dX0_signOn_36 rfl 0 rfl ?_
        refine G.if_ltN (pc := 37) cx N (by omega) dX0_signOn_37 (tgt := 49) (by decide) ?_
        refine G.iload_n (pc := 40) cx dX0_signOn_40 rfl 0 rfl ?_
        refine G.aload_n (pc := 41) cx dX0_signOn_41 rfl 1 rfl ?_
        refine G.getB (pc := 42) cx dX0_signOn_42 0 wm_fl_X0_11 (by decide) rfl ?_
        refine G.alenV (pc := 45) cx dX0_signOn_45 1 rfl bw_crew (v := 16) rfl ?_
        refine G.icmp_ltN (pc := 46) cx N 16 (by omega) (by omega) dX0_signOn_46 (tgt := 52) (by decide) (fun cq46 => ?_) (fun cq46 => ?_)
        · skip
          have nq46 := Nat.not_le.mpr cq46
          refine G.aload_n (pc := 52) cx dX0_signOn_52 rfl 1 rfl ?_
          refine G.getB (pc := 53) cx dX0_signOn_53 0 wm_fl_X0_11 (by decide) rfl ?_
          refine G.iload_n (pc := 56) cx dX0_signOn_56 rfl 0 rfl ?_
          refine G.aaldV (pc := 57) cx dX0_signOn_57 1 rfl bw_crew (j := N) rfl (by omega) (by decide) rfl ?_
          refine G.iload_n (pc := 58) cx dX0_signOn_58 rfl 2 rfl ?_
          refine G.iload_n (pc := 59) cx dX0_signOn_59 rfl 3 rfl ?_
          refine G.callV0 (pc := 60) (rest := []) (st1 := []) cx (c_X6_comeAboard l K sz b z V N q w (by omega)) ok_X6_comeAboard dX0_signOn_60 wm_ml_X0_87 rfl (bw_s (by omega)) rfl rfl (Nat.le_of_ble_eq_true rfl) ⟨Nat.le_of_ble_eq_true rfl, Nat.le_of_ble_eq_true rfl⟩ rfl ?_
          refine G.aload_n (pc := 63) cx dX0_signOn_63 rfl 1 rfl ?_
          refine G.dup (pc := 64) cx dX0_signOn_64 rfl ?_
          refine G.getB (pc := 65) cx dX0_signOn_65 5 wm_fl_X0_63 (by decide) (congrArg (fun x => some (Value.int x)) (((zBegin_o _ _ _ (by omega)).trans ((upd_n (i := 10 * N + 9) (j := 194) _ _ (by omega)).trans ((upd_n (i := 10 * N + 2) (j := 194) _ _ (by omega)).trans ((upd_n (i := 10 * N + 1) (j := 194) _ _ (by omega)).trans ((upd_n (i := 10 * N + 0) (j := 194) _ _ (by omega)).trans hN))))))) ?_
          refine G.iconst (pc := 68) cx dX0_signOn_68 (v := 1) (by decide) ?_
          refine G.iaddN (pc := 69) cx dX0_signOn_69 N 1 ?_
          refine G.putB5 (pc := 70) cx dX0_signOn_70 wm_fl_X0_63 ?_
          refine G.iload_n (pc := 73) cx dX0_signOn_73 rfl 0 rfl ?_
          refine G.iret (pc := 74) cx rfl dX0_signOn_74 ?_ ?_ rfl
          · refine congrArg (fun x => some (Value.int x)) ?_
            (try clear hin9); (try clear cx); (try clear hN); first | (simp [cNoSign, cDoSign, zBegin_o, upd, *]; done) | (simp_all [cNoSign, cDoSign, zBegin_o, upd]; done)
          · refine congrArg (fun x => bw K b x V) ?_
            (try clear hin9); (try clear cx); (try clear hN); first | (simp [cNoSign, cDoSign, zBegin_o, upd, *]; done) | (simp_all [cNoSign, cDoSign, zBegin_o, upd]; done)
        · skip
          have nq46 := Nat.not_lt.mpr cq46
          refine G.ldc (pc := 49) cx dX0_signOn_49 (v := (-1000003)) wm_ct_X0_86 ?_
          refine G.iret (pc := 51) cx rfl dX0_signOn_51 ?_ ?_ rfl
          · refine congrArg (fun x => some (Value.int x)) ?_
            (try clear hin9); (try clear cx); (try clear hN); first | (simp [cNoSign, cDoSign, zBegin_o, upd, *]; done) | (simp_all [cNoSign, cDoSign, zBegin_o, upd]; done)
          · refine congrArg (fun x => bw K b x V) ?_
            (try clear hin9); (try clear cx); (try clear hN); first | (simp [cNoSign, cDoSign, zBegin_o, upd, *]; done) | (simp_all [cNoSign, cDoSign, zBegin_o, upd]; done)
      · skip
        refine G.ldc (pc := 28) cx dX0_signOn_28 (v := (-1000002)) wm_ct_X0_85 ?_
        refine G.iret (pc := 30) cx rfl dX0_signOn_30 ?_ ?_ rfl
        · refine congrArg (fun x => some (Value.int x)) ?_
          (try clear hin9); (try clear cx); (try clear hN); first | (simp [cNoSign, cDoSign, zBegin_o, upd, *]; done) | (simp_all [cNoSign, cDoSign, zBegin_o, upd]; done)
        · refine congrArg (fun x => bw K b x V) ?_
          (try clear hin9); (try clear cx); (try clear hN); first | (simp [cNoSign, cDoSign, zBegin_o, upd, *]; done) | (simp_all [cNoSign, cDoSign, zBegin_o, upd]; done)
    · skip
      refine G.ldc (pc := 18) cx dX0_signOn_18 (v := (-1000001)) wm_ct_X0_84 ?_
      refine G.iret (pc := 20) cx rfl dX0_signOn_20 ?_ ?_ rfl
      · refine congrArg (fun x => some (Value.int x)) ?_
        (try clear hin9); (try clear cx); (try clear hN); first | (simp [cNoSign, cDoSign, zBegin_o, upd, *]; done) | (simp_all [cNoSign, cDoSign, zBegin_o, upd]; done)
      · refine congrArg (fun x => bw K b x V) ?_
        (try clear hin9); (try clear cx); (try clear hN); first | (simp [cNoSign, cDoSign, zBegin_o, upd, *]; done) | (simp_all [cNoSign, cDoSign, zBegin_o, upd]; done)
set_option maxHeartbeats 4000000 in
set_option maxRecDepth 100000 in
theorem c_X0_buyForChest (l : Launch) (K : KT) (sz : Nat) (b : Nat) (z : Zt) (V : VW) (i : Int32) (m : Int32) (c : Int32)  : Ct l K yX0_buyForChest cX0_buyForChest 5 (some .int) 2 [.ref b, .int i, .int m, .int c] (bw K b z V) sz (some (.int (if cNoBuy z i m c < 0 then cNoBuy z i m c else zPriceC z m c))) (bw K b (if cNoBuy z i m c < 0 then z else cDoBuy z (i).toNatClampNeg m c) V) sz 0 0 := by
  refine Ct.ofG (by decide) (Nat.le_of_ble_eq_true rfl) ?_
  intro p9 e9 s9 m9 a9 b9 t9 c9 cx hin9
  refine G.lv0 (lv2 := [(0, .ref b), (1, .int i), (2, .int m), (3, .int c)]) rfl ?_
  by_cases hI : 0 ≤ i ∧ i ≤ 5
  · skip
    obtain ⟨j, hj, rfl⟩ := item_of hI
    have tj : (nI j).toNatClampNeg = j := nI_clamp (by omega)
    refine G.aload_n (pc := 0) cx dX0_buyForChest_0 rfl 0 rfl ?_
    refine G.iload_n (pc := 1) cx dX0_buyForChest_1 rfl 1 rfl ?_
    refine G.callV0 (pc := 2) (rest := []) (st1 := [.ref (b + 19 + j)]) cx (c_X0_findItem l K sz b z V j (by omega)) ok_X0_findItem dX0_buyForChest_2 wm_ml_X0_91 rfl bw_b rfl rfl (Nat.le_of_ble_eq_true rfl) ⟨Nat.le_of_ble_eq_true rfl, Nat.le_of_ble_eq_true rfl⟩ rfl ?_
    refine G.astore (pc := 5) cx dX0_buyForChest_5 (by decide) rfl ?_
    refine G.aload (pc := 7) cx dX0_buyForChest_7 0 rfl ?_
    refine G.ifnull (pc := 9) cx dX0_buyForChest_9 ?_
    refine G.iload_n (pc := 12) cx dX0_buyForChest_12 rfl 3 rfl ?_
    refine G.iconst (pc := 13) cx dX0_buyForChest_13 (v := 1) (by decide) ?_
    refine G.bipush (pc := 14) cx dX0_buyForChest_14 (v := 99) (by decide) ?_
    refine G.callSN0 (pc := 16) (rest := []) (st1 := [.int (b2 (1 ≤ m ∧ m ≤ 99))]) cx (c_X9_within l K sz m 1 99 (bw K b z V)) ok_X9_within dX0_buyForChest_16 (by decide +kernel)  rfl (Nat.le_of_ble_eq_true rfl) ⟨Nat.le_of_ble_eq_true rfl, Nat.le_of_ble_eq_true rfl⟩ rfl ?_
    refine G.if_eqB (pc := 19) cx dX0_buyForChest_19 (tgt := 32) (by decide) (fun cq19 => ?_) (fun cq19 => ?_)
    · skip
      refine G.ldc (pc := 32) cx dX0_buyForChest_32 (v := (-1000001)) wm_ct_X0_84 ?_
      refine G.iret (pc := 34) cx rfl dX0_buyForChest_34 ?_ ?_ rfl
      · refine congrArg (fun x => some (Value.int x)) ?_
        (try clear hin9); (try clear cx); first | (simp [cNoBuy, *]; done) | (simp [cNoBuy, zPriceC, cBuy1, upd_s, *]; done) | (simp_all [cNoBuy]; done)
      · refine congrArg (fun x => bw K b x V) ?_
        (try clear hin9); (try clear cx); first | (simp [cNoBuy, *]; done) | (simp_all [cNoBuy]; done) | (simp [cNoBuy, cDoBuy, cBuy1, *]; done)
    · skip
      refine G.iload_n (pc := 22) cx dX0_buyForChest_22 rfl 4 rfl ?_
      refine G.iconst (pc := 23) cx dX0_buyForChest_23 (v := 1) (by decide) ?_
      refine G.bipush (pc := 24) cx dX0_buyForChest_24 (v := 99) (by decide) ?_
      refine G.callSN0 (pc := 26) (rest := []) (st1 := [.int (b2 (1 ≤ c ∧ c ≤ 99))]) cx (c_X9_within l K sz c 1 99 (bw K b z V)) ok_X9_within dX0_buyForChest_26 (by decide +kernel)  rfl (Nat.le_of_ble_eq_true rfl) ⟨Nat.le_of_ble_eq_true rfl, Nat.le_of_ble_eq_true rfl⟩ rfl ?_
      refine G.if_neB (pc := 29) cx dX0_buyForChest_29 (tgt := 35) (by decide) (fun cq29 => ?_) (fun cq29 => ?_)
      · skip
        refine G.aload_n (pc := 35) cx dX0_buyForChest_35 rfl 1 rfl ?_
        refine G.getB (pc := 36) cx dX0_buyForChest_36 9 wm_fl_X0_76 (by decide) rfl ?_
        refine G.if_eq (pc := 39) cx dX0_buyForChest_39 (tgt := 45) (by decide) (fun cq39 => ?_) (fun cq39 => ?_)
        · skip
          refine G.aload (pc := 45) cx dX0_buyForChest_45 0 rfl ?_
          refine G.getI (pc := 47) cx dX0_buyForChest_47 0 wm_fl_X0_95 (by decide) (by omega) rfl ?_
          refine G.iload_n (pc := 50) cx dX0_buyForChest_50 rfl 3 rfl ?_
          refine G.iadd (pc := 51) cx dX0_buyForChest_51 ?_
          refine G.sipush (pc := 52) cx dX0_buyForChest_52 (v := 500) (by decide) ?_
          refine G.icmp_le (pc := 55) cx dX0_buyForChest_55 (tgt := 61) (by decide) (fun cq55 => ?_) (fun cq55 => ?_)
          · skip
            have nq55 := Int32.not_lt.mpr cq55
            refine G.aload_n (pc := 61) cx dX0_buyForChest_61 rfl 1 rfl ?_
            refine G.getB (pc := 62) cx dX0_buyForChest_62 4 wm_fl_X0_46 (by decide) rfl ?_
            refine G.dup (pc := 65) cx dX0_buyForChest_65 rfl ?_
            refine G.getT (pc := 66) cx dX0_buyForChest_66 2 wm_fl_X0_98 (by decide) rfl ?_
            refine G.iload_n (pc := 69) cx dX0_buyForChest_69 rfl 3 rfl ?_
            refine G.iload_n (pc := 70) cx dX0_buyForChest_70 rfl 4 rfl ?_
            refine G.imul (pc := 71) cx dX0_buyForChest_71 ?_
            refine G.iadd (pc := 72) cx dX0_buyForChest_72 ?_
            refine G.putT (pc := 73) cx dX0_buyForChest_73 2 wm_fl_X0_98 (by decide) ?_
            refine G.aload_n (pc := 76) cx dX0_buyForChest_76 rfl 1 rfl ?_
            refine G.getB (pc := 77) cx dX0_buyForChest_77 4 wm_fl_X0_46 (by decide) rfl ?_
            refine G.iload_n (pc := 80) cx dX0_buyForChest_80 rfl 3 rfl ?_
            refine G.iload_n (pc := 81) cx dX0_buyForChest_81 rfl 4 rfl ?_
            refine G.imul (pc := 82) cx dX0_buyForChest_82 ?_
            refine G.callV0 (pc := 83) (rest := []) (st1 := []) cx (c_X8_takeCash l K sz b (upd z (195 + 2) ((z 197) + (m * c))) V (m * c)) ok_X8_takeCash dX0_buyForChest_83 wm_ml_X0_101 rfl bw_t rfl rfl (Nat.le_of_ble_eq_true rfl) ⟨Nat.le_of_ble_eq_true rfl, Nat.le_of_ble_eq_true rfl⟩ rfl ?_
            refine G.aload (pc := 86) cx dX0_buyForChest_86 0 rfl ?_
            refine G.iload_n (pc := 88) cx dX0_buyForChest_88 rfl 3 rfl ?_
            refine G.iload_n (pc := 89) cx dX0_buyForChest_89 rfl 4 rfl ?_
            refine G.iload_n (pc := 90) cx dX0_buyForChest_90 rfl 4 rfl ?_
            refine G.aload_n (pc := 91) cx dX0_buyForChest_91 rfl 1 rfl ?_
            refine G.iconst (pc := 92) cx dX0_buyForChest_92 (v := 1) (by decide) ?_
            refine G.callV0 (pc := 93) (rest := [.int c, .int c, .int m, .ref (b + 19 + j)]) (st1 := [.int ((cTake (upd z (195 + 2) ((z 197) + (m * c))) (m * c)) (203 + 1)), .int c, .int c, .int m, .ref (b + 19 + j)]) cx (c_X0_setting l K sz b (cTake (upd z (195 + 2) ((z 197) + (m * c))) (m * c)) V 1 (by omega)) ok_X0_setting dX0_buyForChest_93 wm_ml_X0_105 rfl bw_b rfl rfl (Nat.le_of_ble_eq_true rfl) ⟨Nat.le_of_ble_eq_true rfl, Nat.le_of_ble_eq_true rfl⟩ rfl ?_
            refine G.imul (pc := 96) cx dX0_buyForChest_96 ?_
            refine G.bipush (pc := 97) cx dX0_buyForChest_97 (v := 100) (by decide) ?_
            refine G.idiv (pc := 99) cx dX0_buyForChest_99 (by decide) ?_
            refine G.iadd (pc := 100) cx dX0_buyForChest_100 ?_
            refine G.callV0 (pc := 101) (rest := []) (st1 := []) cx (c_X3_takeIn l K sz b (cTake (upd z (195 + 2) ((z 197) + (m * c))) (m * c)) V j m (c + ((c * ((cTake (upd z (195 + 2) ((z 197) + (m * c))) (m * c)) (203 + 1))) / 100)) (by omega)) ok_X3_takeIn dX0_buyForChest_101 wm_ml_X0_109 rfl (bw_i (by omega)) rfl rfl (Nat.le_of_ble_eq_true rfl) ⟨Nat.le_of_ble_eq_true rfl, Nat.le_of_ble_eq_true rfl⟩ rfl ?_
            refine G.aload (pc := 104) cx dX0_buyForChest_104 0 rfl ?_
            refine G.getI (pc := 106) cx dX0_buyForChest_106 1 wm_fl_X0_112 (by decide) (by omega) (congrArg (fun x => some (Value.int x)) (upd_s (upd (upd (cTake (upd z (195 + 2) ((z 197) + (m * c))) (m * c)) (160 + 5 * j + 0) ((cTake (upd z (195 + 2) ((z 197) + (m * c))) (m * c)) (160 + 5 * j) + m)) (160 + 5 * j + 2) ((cTake (upd z (195 + 2) ((z 197) + (m * c))) (m * c)) (160 + 5 * j + 2) + m)) (160 + 5 * j + 1) (c + ((c * ((cTake (upd z (195 + 2) ((z 197) + (m * c))) (m * c)) (203 + 1))) / 100)))) ?_
            refine G.iret (pc := 109) cx rfl dX0_buyForChest_109 ?_ ?_ rfl
            · refine congrArg (fun x => some (Value.int x)) ?_
              (try clear hin9); (try clear cx); first | (simp [cNoBuy, *]; done) | (simp [cNoBuy, zPriceC, cBuy1, upd_s, *]; done) | (simp_all [cNoBuy]; done)
            · refine congrArg (fun x => bw K b x V) ?_
              (try clear hin9); (try clear cx); first | (simp [cNoBuy, *]; done) | (simp_all [cNoBuy]; done) | (simp [cNoBuy, cDoBuy, cBuy1, *]; done)
          · skip
            have nq55 := Int32.not_le.mp cq55
            refine G.ldc (pc := 58) cx dX0_buyForChest_58 (v := (-1000003)) wm_ct_X0_86 ?_
            refine G.iret (pc := 60) cx rfl dX0_buyForChest_60 ?_ ?_ rfl
            · refine congrArg (fun x => some (Value.int x)) ?_
              (try clear hin9); (try clear cx); first | (simp [cNoBuy, *]; done) | (simp [cNoBuy, zPriceC, cBuy1, upd_s, *]; done) | (simp_all [cNoBuy]; done)
            · refine congrArg (fun x => bw K b x V) ?_
              (try clear hin9); (try clear cx); first | (simp [cNoBuy, *]; done) | (simp_all [cNoBuy]; done) | (simp [cNoBuy, cDoBuy, cBuy1, *]; done)
        · skip
          refine G.ldc (pc := 42) cx dX0_buyForChest_42 (v := (-1000002)) wm_ct_X0_85 ?_
          refine G.iret (pc := 44) cx rfl dX0_buyForChest_44 ?_ ?_ rfl
          · refine congrArg (fun x => some (Value.int x)) ?_
            (try clear hin9); (try clear cx); first | (simp [cNoBuy, *]; done) | (simp [cNoBuy, zPriceC, cBuy1, upd_s, *]; done) | (simp_all [cNoBuy]; done)
          · refine congrArg (fun x => bw K b x V) ?_
            (try clear hin9); (try clear cx); first | (simp [cNoBuy, *]; done) | (simp_all [cNoBuy]; done) | (simp [cNoBuy, cDoBuy, cBuy1, *]; done)
      · skip
        refine G.ldc (pc := 32) cx dX0_buyForChest_32 (v := (-1000001)) wm_ct_X0_84 ?_
        refine G.iret (pc := 34) cx rfl dX0_buyForChest_34 ?_ ?_ rfl
        · refine congrArg (fun x => some (Value.int x)) ?_
          (try clear hin9); (try clear cx); first | (simp [cNoBuy, *]; done) | (simp [cNoBuy, zPriceC, cBuy1, upd_s, *]; done) | (simp_all [cNoBuy]; done)
        · refine congrArg (fun x => bw K b x V) ?_
          (try clear hin9); (try clear cx); first | (simp [cNoBuy, *]; done) | (simp_all [cNoBuy]; done) | (simp [cNoBuy, cDoBuy, cBuy1, *]; done)
  · skip
    refine G.aload_n (pc := 0) cx dX0_buyForChest_0 rfl 0 rfl ?_
    refine G.iload_n (pc := 1) cx dX0_buyForChest_1 rfl 1 rfl ?_
    refine G.callV0 (pc := 2) (rest := []) (st1 := [.null]) cx (c_X0_findItemN l K sz b z V i (by assumption)) ok_X0_findItem dX0_buyForChest_2 wm_ml_X0_91 rfl bw_b rfl rfl (Nat.le_of_ble_eq_true rfl) ⟨Nat.le_of_ble_eq_true rfl, Nat.le_of_ble_eq_true rfl⟩ rfl ?_
    refine G.astoreN (pc := 5) cx dX0_buyForChest_5 (by decide) rfl ?_
    refine G.aloadN (pc := 7) cx dX0_buyForChest_7 0 rfl ?_
    refine G.ifnullN (pc := 9) cx dX0_buyForChest_9 (tgt := 32) (by decide) ?_
    refine G.ldc (pc := 32) cx dX0_buyForChest_32 (v := (-1000001)) wm_ct_X0_84 ?_
    refine G.iret (pc := 34) cx rfl dX0_buyForChest_34 ?_ ?_ rfl
    · refine congrArg (fun x => some (Value.int x)) ?_
      (try clear hin9); (try clear cx); first | (simp [cNoBuy, *]; done) | (simp [cNoBuy, zPriceC, cBuy1, upd_s, *]; done) | (simp_all [cNoBuy]; done)
    · refine congrArg (fun x => bw K b x V) ?_
      (try clear hin9); (try clear cx); first | (simp [cNoBuy, *]; done) | (simp_all [cNoBuy]; done) | (simp [cNoBuy, cDoBuy, cBuy1, *]; done)
set_option maxHeartbeats 4000000 in
set_option maxRecDepth 100000 in
theorem c_X0_reasonAgainst (l : Launch) (K : KT) (sz : Nat) (b : Nat) (z : Zt) (V : VW) (k : Nat) (j : Nat) (m : Int32) (hk : k < 16) (hj : j < 6) : Ct l K yX0_reasonAgainst cX0_reasonAgainst 4 (some .int) 2 [.ref b, .ref (b + 2 + k), .ref (b + 19 + j), .int m] (bw K b z V) sz (some (.int (cWhy z k j m))) (bw K b z V) sz 0 0 := by
  refine Ct.ofG (by decide) (Nat.le_of_ble_eq_true rfl) ?_
  intro p9 e9 s9 m9 a9 b9 t9 c9 cx hin9
  refine G.lv0 (lv2 := [(0, .ref b), (1, .ref (b + 2 + k)), (2, .ref (b + 19 + j)), (3, .int m)]) rfl ?_
  refine G.aload_n (pc := 0) cx dX0_reasonAgainst_0 rfl 1 rfl ?_
  refine G.getS (pc := 1) cx dX0_reasonAgainst_1 2 wm_fl_X0_136 (by decide) (by omega) rfl ?_
  refine G.if_eq (pc := 4) cx dX0_reasonAgainst_4 (tgt := 9) (by decide) (fun cq4 => ?_) (fun cq4 => ?_)
  · skip
    refine G.aload_n (pc := 9) cx dX0_reasonAgainst_9 rfl 2 rfl ?_
    refine G.getI (pc := 10) cx dX0_reasonAgainst_10 0 wm_fl_X0_95 (by decide) (by omega) rfl ?_
    refine G.iload_n (pc := 13) cx dX0_reasonAgainst_13 rfl 3 rfl ?_
    refine G.icmp_ge (pc := 14) cx dX0_reasonAgainst_14 (tgt := 19) (by decide) (fun cq14 => ?_) (fun cq14 => ?_)
    · skip
      have nq14 := Int32.not_lt.mpr cq14
      refine G.aload_n (pc := 19) cx dX0_reasonAgainst_19 rfl 1 rfl ?_
      refine G.callV0 (pc := 20) (rest := []) (st1 := [.int (cBal z k)]) cx (c_X6_balance l K sz b z V k (by omega)) ok_X6_balance dX0_reasonAgainst_20 wm_ml_X0_139 rfl (bw_s (by omega)) rfl rfl (Nat.le_of_ble_eq_true rfl) ⟨Nat.le_of_ble_eq_true rfl, Nat.le_of_ble_eq_true rfl⟩ rfl ?_
      refine G.iload_n (pc := 23) cx dX0_reasonAgainst_23 rfl 3 rfl ?_
      refine G.aload_n (pc := 24) cx dX0_reasonAgainst_24 rfl 2 rfl ?_
      refine G.getI (pc := 25) cx dX0_reasonAgainst_25 1 wm_fl_X0_112 (by decide) (by omega) rfl ?_
      refine G.imul (pc := 28) cx dX0_reasonAgainst_28 ?_
      refine G.isub (pc := 29) cx dX0_reasonAgainst_29 ?_
      refine G.aload_n (pc := 30) cx dX0_reasonAgainst_30 rfl 0 rfl ?_
      refine G.iconst (pc := 31) cx dX0_reasonAgainst_31 (v := 0) (by decide) ?_
      refine G.callV0 (pc := 32) (rest := [.int ((cBal z k) - (m * (z (160 + 5 * j + 1))))]) (st1 := [.int (z (203 + 0)), .int ((cBal z k) - (m * (z (160 + 5 * j + 1))))]) cx (c_X0_setting l K sz b z V 0 (by omega)) ok_X0_setting dX0_reasonAgainst_32 wm_ml_X0_105 rfl bw_b rfl rfl (Nat.le_of_ble_eq_true rfl) ⟨Nat.le_of_ble_eq_true rfl, Nat.le_of_ble_eq_true rfl⟩ rfl ?_
      refine G.ineg (pc := 35) cx dX0_reasonAgainst_35 ?_
      refine G.icmp_ge (pc := 36) cx dX0_reasonAgainst_36 (tgt := 43) (by decide) (fun cq36 => ?_) (fun cq36 => ?_)
      · skip
        have nq36 := Int32.not_lt.mpr cq36
        refine G.iconst (pc := 43) cx dX0_reasonAgainst_43 (v := 0) (by decide) ?_
        refine G.iret (pc := 44) cx rfl dX0_reasonAgainst_44 ?_ ?_ rfl
        · refine congrArg (fun x => some (Value.int x)) ?_
          (try clear hin9); (try clear cx); first | (simp [cWhy, *]; done) | (simp_all [cWhy, Int32.not_le, Int32.not_lt]; done)
        · rfl
      · skip
        have nq36 := Int32.not_le.mp cq36
        refine G.iconst (pc := 39) cx dX0_reasonAgainst_39 (v := 3) (by decide) ?_
        refine G.goto (pc := 40) cx dX0_reasonAgainst_40 (tgt := 44) (by decide) ?_
        refine G.iret (pc := 44) cx rfl dX0_reasonAgainst_44 ?_ ?_ rfl
        · refine congrArg (fun x => some (Value.int x)) ?_
          (try clear hin9); (try clear cx); first | (simp [cWhy, *]; done) | (simp_all [cWhy, Int32.not_le, Int32.not_lt]; done)
        · rfl
    · skip
      have nq14 := Int32.not_le.mp cq14
      refine G.iconst (pc := 17) cx dX0_reasonAgainst_17 (v := 2) (by decide) ?_
      refine G.iret (pc := 18) cx rfl dX0_reasonAgainst_18 ?_ ?_ rfl
      · refine congrArg (fun x => some (Value.int x)) ?_
        (try clear hin9); (try clear cx); first | (simp [cWhy, *]; done) | (simp_all [cWhy, Int32.not_le, Int32.not_lt]; done)
      · rfl
  · skip
    refine G.iconst (pc := 7) cx dX0_reasonAgainst_7 (v := 1) (by decide) ?_
    refine G.iret (pc := 8) cx rfl dX0_reasonAgainst_8 ?_ ?_ rfl
    · refine congrArg (fun x => some (Value.int x)) ?_
      (try clear hin9); (try clear cx); first | (simp [cWhy, *]; done) | (simp_all [cWhy, Int32.not_le, Int32.not_lt]; done)
    · rfl
set_option maxHeartbeats 4000000 in
set_option maxRecDepth 100000 in
theorem c_X0_reasonNotToSell (l : Launch) (K : KT) (sz : Nat) (b : Nat) (z : Zt) (V : VW) (a : Int32) (i : Int32) (m : Int32) (N : Nat) (hN : z 194 = nI N) (h16 : N ≤ 16) : Ct l K yX0_reasonNotToSell cX0_reasonNotToSell 6 (some .int) 3 [.ref b, .int a, .int i, .int m] (bw K b z V) sz (some (.int (cWhyP z a i m))) (bw K b z V) sz 0 0 := by
  refine Ct.ofG (by decide) (Nat.le_of_ble_eq_true rfl) ?_
  intro p9 e9 s9 m9 a9 b9 t9 c9 cx hin9
  refine G.lv0 (lv2 := [(0, .ref b), (1, .int a), (2, .int i), (3, .int m)]) rfl ?_
  by_cases hS : 0 ≤ a ∧ a ≤ z 194 - 1
  · skip
    obtain ⟨k, hk, rfl⟩ := sail_of hN h16 hS
    have tk : (nI k).toNatClampNeg = k := nI_clamp (by omega)
    refine G.aload_n (pc := 0) cx dX0_reasonNotToSell_0 rfl 0 rfl ?_
    refine G.iload_n (pc := 1) cx dX0_reasonNotToSell_1 rfl 1 rfl ?_
    refine G.callV0 (pc := 2) (rest := []) (st1 := [.ref (b + 2 + k)]) cx (c_X0_findSailor l K sz b z V N k (by assumption) (by omega) (by omega)) ok_X0_findSailor dX0_reasonNotToSell_2 wm_ml_X0_115 rfl bw_b rfl rfl (Nat.le_of_ble_eq_true rfl) ⟨Nat.le_of_ble_eq_true rfl, Nat.le_of_ble_eq_true rfl⟩ rfl ?_
    refine G.astore (pc := 5) cx dX0_reasonNotToSell_5 (by decide) rfl ?_
    by_cases hI : 0 ≤ i ∧ i ≤ 5
    · skip
      obtain ⟨j, hj, rfl⟩ := item_of hI
      have tj : (nI j).toNatClampNeg = j := nI_clamp (by omega)
      refine G.aload_n (pc := 7) cx dX0_reasonNotToSell_7 rfl 1 rfl ?_
      refine G.iload_n (pc := 8) cx dX0_reasonNotToSell_8 rfl 3 rfl ?_
      refine G.callV0 (pc := 9) (rest := []) (st1 := [.ref (b + 19 + j)]) cx (c_X0_findItem l K sz b z V j (by omega)) ok_X0_findItem dX0_reasonNotToSell_9 wm_ml_X0_91 rfl bw_b rfl rfl (Nat.le_of_ble_eq_true rfl) ⟨Nat.le_of_ble_eq_true rfl, Nat.le_of_ble_eq_true rfl⟩ rfl ?_
      refine G.astore (pc := 12) cx dX0_reasonNotToSell_12 (by decide) rfl ?_
      refine G.aload (pc := 14) cx dX0_reasonNotToSell_14 1 rfl ?_
      refine G.ifnull (pc := 16) cx dX0_reasonNotToSell_16 ?_
      refine G.aload (pc := 19) cx dX0_reasonNotToSell_19 0 rfl ?_
      refine G.ifnull (pc := 21) cx dX0_reasonNotToSell_21 ?_
      refine G.iload_n (pc := 24) cx dX0_reasonNotToSell_24 rfl 5 rfl ?_
      refine G.iconst (pc := 25) cx dX0_reasonNotToSell_25 (v := 1) (by decide) ?_
      refine G.bipush (pc := 26) cx dX0_reasonNotToSell_26 (v := 99) (by decide) ?_
      refine G.callSN0 (pc := 28) (rest := []) (st1 := [.int (b2 (1 ≤ m ∧ m ≤ 99))]) cx (c_X9_within l K sz m 1 99 (bw K b z V)) ok_X9_within dX0_reasonNotToSell_28 (by decide +kernel)  rfl (Nat.le_of_ble_eq_true rfl) ⟨Nat.le_of_ble_eq_true rfl, Nat.le_of_ble_eq_true rfl⟩ rfl ?_
      refine G.if_neB (pc := 31) cx dX0_reasonNotToSell_31 (tgt := 37) (by decide) (fun cq31 => ?_) (fun cq31 => ?_)
      · skip
        refine G.aload_n (pc := 37) cx dX0_reasonNotToSell_37 rfl 2 rfl ?_
        refine G.aload (pc := 38) cx dX0_reasonNotToSell_38 1 rfl ?_
        refine G.aload (pc := 40) cx dX0_reasonNotToSell_40 0 rfl ?_
        refine G.iload_n (pc := 42) cx dX0_reasonNotToSell_42 rfl 5 rfl ?_
        refine G.callV0 (pc := 43) (rest := []) (st1 := [.int (cWhy z k j m)]) cx (c_X0_reasonAgainst l K sz b z V k j m (by omega) (by omega)) ok_X0_reasonAgainst dX0_reasonNotToSell_43 wm_ml_X0_119 rfl bw_b rfl rfl (Nat.le_of_ble_eq_true rfl) ⟨Nat.le_of_ble_eq_true rfl, Nat.le_of_ble_eq_true rfl⟩ rfl ?_
        refine G.iret (pc := 46) cx rfl dX0_reasonNotToSell_46 ?_ ?_ rfl
        · refine congrArg (fun x => some (Value.int x)) ?_
          (try clear hin9); (try clear cx); first | (simp [cWhyP, *]; done) | (simp_all [cWhyP]; done)
        · rfl
      · skip
        refine G.ldc (pc := 34) cx dX0_reasonNotToSell_34 (v := (-1000001)) wm_ct_X0_84 ?_
        refine G.iret (pc := 36) cx rfl dX0_reasonNotToSell_36 ?_ ?_ rfl
        · refine congrArg (fun x => some (Value.int x)) ?_
          (try clear hin9); (try clear cx); first | (simp [cWhyP, *]; done) | (simp_all [cWhyP]; done)
        · rfl
    · skip
      refine G.aload_n (pc := 7) cx dX0_reasonNotToSell_7 rfl 1 rfl ?_
      refine G.iload_n (pc := 8) cx dX0_reasonNotToSell_8 rfl 3 rfl ?_
      refine G.callV0 (pc := 9) (rest := []) (st1 := [.null]) cx (c_X0_findItemN l K sz b z V i (by assumption)) ok_X0_findItem dX0_reasonNotToSell_9 wm_ml_X0_91 rfl bw_b rfl rfl (Nat.le_of_ble_eq_true rfl) ⟨Nat.le_of_ble_eq_true rfl, Nat.le_of_ble_eq_true rfl⟩ rfl ?_
      refine G.astoreN (pc := 12) cx dX0_reasonNotToSell_12 (by decide) rfl ?_
      refine G.aload (pc := 14) cx dX0_reasonNotToSell_14 1 rfl ?_
      refine G.ifnull (pc := 16) cx dX0_reasonNotToSell_16 ?_
      refine G.aloadN (pc := 19) cx dX0_reasonNotToSell_19 0 rfl ?_
      refine G.ifnullN (pc := 21) cx dX0_reasonNotToSell_21 (tgt := 34) (by decide) ?_
      refine G.ldc (pc := 34) cx dX0_reasonNotToSell_34 (v := (-1000001)) wm_ct_X0_84 ?_
      refine G.iret (pc := 36) cx rfl dX0_reasonNotToSell_36 ?_ ?_ rfl
      · refine congrArg (fun x => some (Value.int x)) ?_
        (try clear hin9); (try clear cx); first | (simp [cWhyP, *]; done) | (simp_all [cWhyP]; done)
      · rfl
  · skip
    refine G.aload_n (pc := 0) cx dX0_reasonNotToSell_0 rfl 0 rfl ?_
    refine G.iload_n (pc := 1) cx dX0_reasonNotToSell_1 rfl 1 rfl ?_
    refine G.callV0 (pc := 2) (rest := []) (st1 := [.null]) cx (c_X0_findSailorN l K sz b z V N a (by assumption) (by omega) (by assumption)) ok_X0_findSailor dX0_reasonNotToSell_2 wm_ml_X0_115 rfl bw_b rfl rfl (Nat.le_of_ble_eq_true rfl) ⟨Nat.le_of_ble_eq_true rfl, Nat.le_of_ble_eq_true rfl⟩ rfl ?_
    refine G.astoreN (pc := 5) cx dX0_reasonNotToSell_5 (by decide) rfl ?_
    by_cases hI : 0 ≤ i ∧ i ≤ 5
    · skip
      obtain ⟨j, hj, rfl⟩ := item_of hI
      have tj : (nI j).toNatClampNeg = j := nI_clamp (by omega)
      refine G.aload_n (pc := 7) cx dX0_reasonNotToSell_7 rfl 1 rfl ?_
      refine G.iload_n (pc := 8) cx dX0_reasonNotToSell_8 rfl 3 rfl ?_
      refine G.callV0 (pc := 9) (rest := []) (st1 := [.ref (b + 19 + j)]) cx (c_X0_findItem l K sz b z V j (by omega)) ok_X0_findItem dX0_reasonNotToSell_9 wm_ml_X0_91 rfl bw_b rfl rfl (Nat.le_of_ble_eq_true rfl) ⟨Nat.le_of_ble_eq_true rfl, Nat.le_of_ble_eq_true rfl⟩ rfl ?_
      refine G.astore (pc := 12) cx dX0_reasonNotToSell_12 (by decide) rfl ?_
      refine G.aloadN (pc := 14) cx dX0_reasonNotToSell_14 1 rfl ?_
      refine G.ifnullN (pc := 16) cx dX0_reasonNotToSell_16 (tgt := 34) (by decide) ?_
      refine G.ldc (pc := 34) cx dX0_reasonNotToSell_34 (v := (-1000001)) wm_ct_X0_84 ?_
      refine G.iret (pc := 36) cx rfl dX0_reasonNotToSell_36 ?_ ?_ rfl
      · refine congrArg (fun x => some (Value.int x)) ?_
        (try clear hin9); (try clear cx); first | (simp [cWhyP, *]; done) | (simp_all [cWhyP]; done)
      · rfl
    · skip
      refine G.aload_n (pc := 7) cx dX0_reasonNotToSell_7 rfl 1 rfl ?_
      refine G.iload_n (pc := 8) cx dX0_reasonNotToSell_8 rfl 3 rfl ?_
      refine G.callV0 (pc := 9) (rest := []) (st1 := [.null]) cx (c_X0_findItemN l K sz b z V i (by assumption)) ok_X0_findItem dX0_reasonNotToSell_9 wm_ml_X0_91 rfl bw_b rfl rfl (Nat.le_of_ble_eq_true rfl) ⟨Nat.le_of_ble_eq_true rfl, Nat.le_of_ble_eq_true rfl⟩ rfl ?_
      refine G.astoreN (pc := 12) cx dX0_reasonNotToSell_12 (by decide) rfl ?_
      refine G.aloadN (pc := 14) cx dX0_reasonNotToSell_14 1 rfl ?_
      refine G.ifnullN (pc := 16) cx dX0_reasonNotToSell_16 (tgt := 34) (by decide) ?_
      refine G.ldc (pc := 34) cx dX0_reasonNotToSell_34 (v := (-1000001)) wm_ct_X0_84 ?_
      refine G.iret (pc := 36) cx rfl dX0_reasonNotToSell_36 ?_ ?_ rfl
      · refine congrArg (fun x => some (Value.int x)) ?_
        (try clear hin9); (try clear cx); first | (simp [cWhyP, *]; done) | (simp_all [cWhyP]; done)
      · rfl
set_option maxHeartbeats 4000000 in
set_option maxRecDepth 100000 in
theorem c_X0_sellFromChest (l : Launch) (K : KT) (sz : Nat) (b : Nat) (z : Zt) (V : VW) (a : Int32) (i : Int32) (m : Int32) (N : Nat) (hN : z 194 = nI N) (h16 : N ≤ 16) : Ct l K yX0_sellFromChest cX0_sellFromChest 7 (some .int) 3 [.ref b, .int a, .int i, .int m] (bw K b z V) sz (some (.int (if cNoSell z a i m < 0 then cNoSell z a i m else m * z (160 + 5 * (i).toNatClampNeg + 1)))) (bw K b (if cNoSell z a i m < 0 then z else cDoSell z (a).toNatClampNeg (i).toNatClampNeg m) V) sz 0 0 := by
  refine Ct.ofG (by decide) (Nat.le_of_ble_eq_true rfl) ?_
  intro p9 e9 s9 m9 a9 b9 t9 c9 cx hin9
  refine G.lv0 (lv2 := [(0, .ref b), (1, .int a), (2, .int i), (3, .int m)]) rfl ?_
  by_cases hS : 0 ≤ a ∧ a ≤ z 194 - 1
  · skip
    obtain ⟨k, hk, rfl⟩ := sail_of hN h16 hS
    have tk : (nI k).toNatClampNeg = k := nI_clamp (by omega)
    refine G.aload_n (pc := 0) cx dX0_sellFromChest_0 rfl 0 rfl ?_
    refine G.iload_n (pc := 1) cx dX0_sellFromChest_1 rfl 1 rfl ?_
    refine G.callV0 (pc := 2) (rest := []) (st1 := [.ref (b + 2 + k)]) cx (c_X0_findSailor l K sz b z V N k (by assumption) (by omega) (by omega)) ok_X0_findSailor dX0_sellFromChest_2 wm_ml_X0_115 rfl bw_b rfl rfl (Nat.le_of_ble_eq_true rfl) ⟨Nat.le_of_ble_eq_true rfl, Nat.le_of_ble_eq_true rfl⟩ rfl ?_
    refine G.astore (pc := 5) cx dX0_sellFromChest_5 (by decide) rfl ?_
    by_cases hI : 0 ≤ i ∧ i ≤ 5
    · skip
      obtain ⟨j, hj, rfl⟩ := item_of hI
      have tj : (nI j).toNatClampNeg = j := nI_clamp (by omega)
      refine G.aload_n (pc := 7) cx dX0_sellFromChest_7 rfl 1 rfl ?_
      refine G.iload_n (pc := 8) cx dX0_sellFromChest_8 rfl 3 rfl ?_
      refine G.callV0 (pc := 9) (rest := []) (st1 := [.ref (b + 19 + j)]) cx (c_X0_findItem l K sz b z V j (by omega)) ok_X0_findItem dX0_sellFromChest_9 wm_ml_X0_91 rfl bw_b rfl rfl (Nat.le_of_ble_eq_true rfl) ⟨Nat.le_of_ble_eq_true rfl, Nat.le_of_ble_eq_true rfl⟩ rfl ?_
      refine G.astore (pc := 12) cx dX0_sellFromChest_12 (by decide) rfl ?_
      refine G.aload (pc := 14) cx dX0_sellFromChest_14 1 rfl ?_
      refine G.ifnull (pc := 16) cx dX0_sellFromChest_16 ?_
      refine G.aload (pc := 19) cx dX0_sellFromChest_19 0 rfl ?_
      refine G.ifnull (pc := 21) cx dX0_sellFromChest_21 ?_
      refine G.iload_n (pc := 24) cx dX0_sellFromChest_24 rfl 5 rfl ?_
      refine G.iconst (pc := 25) cx dX0_sellFromChest_25 (v := 1) (by decide) ?_
      refine G.bipush (pc := 26) cx dX0_sellFromChest_26 (v := 99) (by decide) ?_
      refine G.callSN0 (pc := 28) (rest := []) (st1 := [.int (b2 (1 ≤ m ∧ m ≤ 99))]) cx (c_X9_within l K sz m 1 99 (bw K b z V)) ok_X9_within dX0_sellFromChest_28 (by decide +kernel)  rfl (Nat.le_of_ble_eq_true rfl) ⟨Nat.le_of_ble_eq_true rfl, Nat.le_of_ble_eq_true rfl⟩ rfl ?_
      refine G.if_neB (pc := 31) cx dX0_sellFromChest_31 (tgt := 37) (by decide) (fun cq31 => ?_) (fun cq31 => ?_)
      · skip
        refine G.aload_n (pc := 37) cx dX0_sellFromChest_37 rfl 2 rfl ?_
        refine G.aload (pc := 38) cx dX0_sellFromChest_38 1 rfl ?_
        refine G.aload (pc := 40) cx dX0_sellFromChest_40 0 rfl ?_
        refine G.iload_n (pc := 42) cx dX0_sellFromChest_42 rfl 5 rfl ?_
        refine G.callV0 (pc := 43) (rest := []) (st1 := [.int (cWhy z k j m)]) cx (c_X0_reasonAgainst l K sz b z V k j m (by omega) (by omega)) ok_X0_reasonAgainst dX0_sellFromChest_43 wm_ml_X0_119 rfl bw_b rfl rfl (Nat.le_of_ble_eq_true rfl) ⟨Nat.le_of_ble_eq_true rfl, Nat.le_of_ble_eq_true rfl⟩ rfl ?_
        refine G.if_eq (pc := 46) cx dX0_sellFromChest_46 (tgt := 52) (by decide) (fun cq46 => ?_) (fun cq46 => ?_)
        · skip
          refine G.iload_n (pc := 52) cx dX0_sellFromChest_52 rfl 5 rfl ?_
          refine G.aload (pc := 53) cx dX0_sellFromChest_53 0 rfl ?_
          refine G.getI (pc := 55) cx dX0_sellFromChest_55 1 wm_fl_X0_112 (by decide) (by omega) rfl ?_
          refine G.imul (pc := 58) cx dX0_sellFromChest_58 ?_
          refine G.istore (pc := 59) cx dX0_sellFromChest_59 (by decide) rfl ?_
          refine G.aload (pc := 61) cx dX0_sellFromChest_61 1 rfl ?_
          refine G.iload_n (pc := 63) cx dX0_sellFromChest_63 rfl 6 rfl ?_
          refine G.iload (pc := 64) cx dX0_sellFromChest_64 0 rfl ?_
          refine G.callV0 (pc := 66) (rest := []) (st1 := []) cx (c_X3_giveOut l K sz b z V j m (m * (z (160 + 5 * j + 1))) (by omega)) ok_X3_giveOut dX0_sellFromChest_66 wm_ml_X0_123 rfl (bw_i (by omega)) rfl rfl (Nat.le_of_ble_eq_true rfl) ⟨Nat.le_of_ble_eq_true rfl, Nat.le_of_ble_eq_true rfl⟩ rfl ?_
          refine G.aload (pc := 69) cx dX0_sellFromChest_69 2 rfl ?_
          refine G.dup (pc := 71) cx dX0_sellFromChest_71 rfl ?_
          refine G.getS (pc := 72) cx dX0_sellFromChest_72 5 wm_fl_X0_126 (by decide) (by omega) (congrArg (fun x => some (Value.int x)) ((upd_n (i := 160 + 5 * j + 4) (j := 10 * k + 5) (upd (upd z (160 + 5 * j + 0) (z (160 + 5 * j) - m)) (160 + 5 * j + 3) (z (160 + 5 * j + 3) + m)) (z (160 + 5 * j + 4) + (m * (z (160 + 5 * j + 1)))) (by omega)).trans ((upd_n (i := 160 + 5 * j + 3) (j := 10 * k + 5) (upd z (160 + 5 * j + 0) (z (160 + 5 * j) - m)) (z (160 + 5 * j + 3) + m) (by omega)).trans (upd_n (i := 160 + 5 * j + 0) (j := 10 * k + 5) z (z (160 + 5 * j) - m) (by omega))))) ?_
          refine G.iload (pc := 75) cx dX0_sellFromChest_75 0 rfl ?_
          refine G.iadd (pc := 77) cx dX0_sellFromChest_77 ?_
          refine G.putS (pc := 78) cx dX0_sellFromChest_78 5 wm_fl_X0_126 (by decide) (by decide) (by omega) ?_
          refine G.aload_n (pc := 81) cx dX0_sellFromChest_81 rfl 3 rfl ?_
          refine G.getB (pc := 82) cx dX0_sellFromChest_82 4 wm_fl_X0_46 (by decide) rfl ?_
          refine G.dup (pc := 85) cx dX0_sellFromChest_85 rfl ?_
          refine G.getT (pc := 86) cx dX0_sellFromChest_86 5 wm_fl_X0_129 (by decide) (congrArg (fun x => some (Value.int x)) ((upd_n (i := 10 * k + 5) (j := 200) (upd (upd (upd z (160 + 5 * j + 0) (z (160 + 5 * j) - m)) (160 + 5 * j + 3) (z (160 + 5 * j + 3) + m)) (160 + 5 * j + 4) (z (160 + 5 * j + 4) + (m * (z (160 + 5 * j + 1))))) ((z (10 * k + 5)) + (m * (z (160 + 5 * j + 1)))) (by omega)).trans ((upd_n (i := 160 + 5 * j + 4) (j := 200) (upd (upd z (160 + 5 * j + 0) (z (160 + 5 * j) - m)) (160 + 5 * j + 3) (z (160 + 5 * j + 3) + m)) (z (160 + 5 * j + 4) + (m * (z (160 + 5 * j + 1)))) (by omega)).trans ((upd_n (i := 160 + 5 * j + 3) (j := 200) (upd z (160 + 5 * j + 0) (z (160 + 5 * j) - m)) (z (160 + 5 * j + 3) + m) (by omega)).trans (upd_n (i := 160 + 5 * j + 0) (j := 200) z (z (160 + 5 * j) - m) (by omega)))))) ?_
          refine G.iload (pc := 89) cx dX0_sellFromChest_89 0 rfl ?_
          refine G.iadd (pc := 91) cx dX0_sellFromChest_91 ?_
          refine G.putT (pc := 92) cx dX0_sellFromChest_92 5 wm_fl_X0_129 (by decide) ?_
          refine G.aload_n (pc := 95) cx dX0_sellFromChest_95 rfl 3 rfl ?_
          refine G.getB (pc := 96) cx dX0_sellFromChest_96 3 wm_fl_X0_39 (by decide) rfl ?_
          refine G.iload_n (pc := 99) cx dX0_sellFromChest_99 rfl 4 rfl ?_
          refine G.iconst (pc := 100) cx dX0_sellFromChest_100 (v := 0) (by decide) ?_
          refine G.iload (pc := 101) cx dX0_sellFromChest_101 0 rfl ?_
          refine G.callV0 (pc := 103) (rest := []) (st1 := []) cx (c_X1_enter l K sz b (upd (upd (upd (upd (upd z (160 + 5 * j + 0) (z (160 + 5 * j) - m)) (160 + 5 * j + 3) (z (160 + 5 * j + 3) + m)) (160 + 5 * j + 4) (z (160 + 5 * j + 4) + (m * (z (160 + 5 * j + 1))))) (10 * k + 5) ((z (10 * k + 5)) + (m * (z (160 + 5 * j + 1))))) (195 + 5) ((z 200) + (m * (z (160 + 5 * j + 1))))) V (nI k) 0 (m * (z (160 + 5 * j + 1)))) ok_X1_enter dX0_sellFromChest_103 wm_ml_X0_132 rfl bw_e rfl rfl (Nat.le_of_ble_eq_true rfl) ⟨Nat.le_of_ble_eq_true rfl, Nat.le_of_ble_eq_true rfl⟩ rfl ?_
          refine G.iload (pc := 106) cx dX0_sellFromChest_106 0 rfl ?_
          refine G.iret (pc := 108) cx rfl dX0_sellFromChest_108 ?_ ?_ rfl
          · refine congrArg (fun x => some (Value.int x)) ?_
            (try clear hin9); (try clear cx); (try clear hN); first | (simp [cNoSell, cDoSell, cSell1, cSell2, *]; done) | (simp_all [cNoSell, cDoSell, cSell1, cSell2]; done)
          · refine congrArg (fun x => bw K b x V) ?_
            (try clear hin9); (try clear cx); (try clear hN); first | (simp [cNoSell, cDoSell, cSell1, cSell2, *]; done) | (simp_all [cNoSell, cDoSell, cSell1, cSell2]; done)
        · skip
          refine G.ldc (pc := 49) cx dX0_sellFromChest_49 (v := (-1000002)) wm_ct_X0_85 ?_
          refine G.iret (pc := 51) cx rfl dX0_sellFromChest_51 ?_ ?_ rfl
          · refine congrArg (fun x => some (Value.int x)) ?_
            (try clear hin9); (try clear cx); (try clear hN); first | (simp [cNoSell, cDoSell, cSell1, cSell2, *]; done) | (simp_all [cNoSell, cDoSell, cSell1, cSell2]; done)
          · refine congrArg (fun x => bw K b x V) ?_
            (try clear hin9); (try clear cx); (try clear hN); first | (simp [cNoSell, cDoSell, cSell1, cSell2, *]; done) | (simp_all [cNoSell, cDoSell, cSell1, cSell2]; done)
      · skip
        refine G.ldc (pc := 34) cx dX0_sellFromChest_34 (v := (-1000001)) wm_ct_X0_84 ?_
        refine G.iret (pc := 36) cx rfl dX0_sellFromChest_36 ?_ ?_ rfl
        · refine congrArg (fun x => some (Value.int x)) ?_
          (try clear hin9); (try clear cx); (try clear hN); first | (simp [cNoSell, cDoSell, cSell1, cSell2, *]; done) | (simp_all [cNoSell, cDoSell, cSell1, cSell2]; done)
        · refine congrArg (fun x => bw K b x V) ?_
          (try clear hin9); (try clear cx); (try clear hN); first | (simp [cNoSell, cDoSell, cSell1, cSell2, *]; done) | (simp_all [cNoSell, cDoSell, cSell1, cSell2]; done)
    · skip
      refine G.aload_n (pc := 7) cx dX0_sellFromChest_7 rfl 1 rfl ?_
      refine G.iload_n (pc := 8) cx dX0_sellFromChest_8 rfl 3 rfl ?_
      refine G.callV0 (pc := 9) (rest := []) (st1 := [.null]) cx (c_X0_findItemN l K sz b z V i (by assumption)) ok_X0_findItem dX0_sellFromChest_9 wm_ml_X0_91 rfl bw_b rfl rfl (Nat.le_of_ble_eq_true rfl) ⟨Nat.le_of_ble_eq_true rfl, Nat.le_of_ble_eq_true rfl⟩ rfl ?_
      refine G.astoreN (pc := 12) cx dX0_sellFromChest_12 (by decide) rfl ?_
      refine G.aload (pc := 14) cx dX0_sellFromChest_14 1 rfl ?_
      refine G.ifnull (pc := 16) cx dX0_sellFromChest_16 ?_
      refine G.aloadN (pc := 19) cx dX0_sellFromChest_19 0 rfl ?_
      refine G.ifnullN (pc := 21) cx dX0_sellFromChest_21 (tgt := 34) (by decide) ?_
      refine G.ldc (pc := 34) cx dX0_sellFromChest_34 (v := (-1000001)) wm_ct_X0_84 ?_
      refine G.iret (pc := 36) cx rfl dX0_sellFromChest_36 ?_ ?_ rfl
      · refine congrArg (fun x => some (Value.int x)) ?_
        (try clear hin9); (try clear cx); (try clear hN); first | (simp [cNoSell, cDoSell, cSell1, cSell2, *]; done) | (simp_all [cNoSell, cDoSell, cSell1, cSell2]; done)
      · refine congrArg (fun x => bw K b x V) ?_
        (try clear hin9); (try clear cx); (try clear hN); first | (simp [cNoSell, cDoSell, cSell1, cSell2, *]; done) | (simp_all [cNoSell, cDoSell, cSell1, cSell2]; done)
  · skip
    refine G.aload_n (pc := 0) cx dX0_sellFromChest_0 rfl 0 rfl ?_
    refine G.iload_n (pc := 1) cx dX0_sellFromChest_1 rfl 1 rfl ?_
    refine G.callV0 (pc := 2) (rest := []) (st1 := [.null]) cx (c_X0_findSailorN l K sz b z V N a (by assumption) (by omega) (by assumption)) ok_X0_findSailor dX0_sellFromChest_2 wm_ml_X0_115 rfl bw_b rfl rfl (Nat.le_of_ble_eq_true rfl) ⟨Nat.le_of_ble_eq_true rfl, Nat.le_of_ble_eq_true rfl⟩ rfl ?_
    refine G.astoreN (pc := 5) cx dX0_sellFromChest_5 (by decide) rfl ?_
    by_cases hI : 0 ≤ i ∧ i ≤ 5
    · skip
      obtain ⟨j, hj, rfl⟩ := item_of hI
      have tj : (nI j).toNatClampNeg = j := nI_clamp (by omega)
      refine G.aload_n (pc := 7) cx dX0_sellFromChest_7 rfl 1 rfl ?_
      refine G.iload_n (pc := 8) cx dX0_sellFromChest_8 rfl 3 rfl ?_
      refine G.callV0 (pc := 9) (rest := []) (st1 := [.ref (b + 19 + j)]) cx (c_X0_findItem l K sz b z V j (by omega)) ok_X0_findItem dX0_sellFromChest_9 wm_ml_X0_91 rfl bw_b rfl rfl (Nat.le_of_ble_eq_true rfl) ⟨Nat.le_of_ble_eq_true rfl, Nat.le_of_ble_eq_true rfl⟩ rfl ?_
      refine G.astore (pc := 12) cx dX0_sellFromChest_12 (by decide) rfl ?_
      refine G.aloadN (pc := 14) cx dX0_sellFromChest_14 1 rfl ?_
      refine G.ifnullN (pc := 16) cx dX0_sellFromChest_16 (tgt := 34) (by decide) ?_
      refine G.ldc (pc := 34) cx dX0_sellFromChest_34 (v := (-1000001)) wm_ct_X0_84 ?_
      refine G.iret (pc := 36) cx rfl dX0_sellFromChest_36 ?_ ?_ rfl
      · refine congrArg (fun x => some (Value.int x)) ?_
        (try clear hin9); (try clear cx); (try clear hN); first | (simp [cNoSell, cDoSell, cSell1, cSell2, *]; done) | (simp_all [cNoSell, cDoSell, cSell1, cSell2]; done)
      · refine congrArg (fun x => bw K b x V) ?_
        (try clear hin9); (try clear cx); (try clear hN); first | (simp [cNoSell, cDoSell, cSell1, cSell2, *]; done) | (simp_all [cNoSell, cDoSell, cSell1, cSell2]; done)
    · skip
      refine G.aload_n (pc := 7) cx dX0_sellFromChest_7 rfl 1 rfl ?_
      refine G.iload_n (pc := 8) cx dX0_sellFromChest_8 rfl 3 rfl ?_
      refine G.callV0 (pc := 9) (rest := []) (st1 := [.null]) cx (c_X0_findItemN l K sz b z V i (by assumption)) ok_X0_findItem dX0_sellFromChest_9 wm_ml_X0_91 rfl bw_b rfl rfl (Nat.le_of_ble_eq_true rfl) ⟨Nat.le_of_ble_eq_true rfl, Nat.le_of_ble_eq_true rfl⟩ rfl ?_
      refine G.astoreN (pc := 12) cx dX0_sellFromChest_12 (by decide) rfl ?_
      refine G.aloadN (pc := 14) cx dX0_sellFromChest_14 1 rfl ?_
      refine G.ifnullN (pc := 16) cx dX0_sellFromChest_16 (tgt := 34) (by decide) ?_
      refine G.ldc (pc := 34) cx dX0_sellFromChest_34 (v := (-1000001)) wm_ct_X0_84 ?_
      refine G.iret (pc := 36) cx rfl dX0_sellFromChest_36 ?_ ?_ rfl
      · refine congrArg (fun x => some (Value.int x)) ?_
        (try clear hin9); (try clear cx); (try clear hN); first | (simp [cNoSell, cDoSell, cSell1, cSell2, *]; done) | (simp_all [cNoSell, cDoSell, cSell1, cSell2]; done)
      · refine congrArg (fun x => bw K b x V) ?_
        (try clear hin9); (try clear cx); (try clear hN); first | (simp [cNoSell, cDoSell, cSell1, cSell2, *]; done) | (simp_all [cNoSell, cDoSell, cSell1, cSell2]; done)
set_option maxHeartbeats 4000000 in
set_option maxRecDepth 100000 in
theorem c_X0_advanceTo (l : Launch) (K : KT) (sz : Nat) (b : Nat) (z : Zt) (V : VW) (a : Int32) (x : Int32) (N : Nat) (hN : z 194 = nI N) (h16 : N ≤ 16) : Ct l K yX0_advanceTo cX0_advanceTo 4 (some .int) 2 [.ref b, .int a, .int x] (bw K b z V) sz (some (.int (if cNoAdv z a x < 0 then cNoAdv z a x else cDoAdv z (a).toNatClampNeg x 195))) (bw K b (if cNoAdv z a x < 0 then z else cDoAdv z (a).toNatClampNeg x) V) sz 0 0 := by
  refine Ct.ofG (by decide) (Nat.le_of_ble_eq_true rfl) ?_
  intro p9 e9 s9 m9 a9 b9 t9 c9 cx hin9
  refine G.lv0 (lv2 := [(0, .ref b), (1, .int a), (2, .int x)]) rfl ?_
  by_cases hS : 0 ≤ a ∧ a ≤ z 194 - 1
  · skip
    obtain ⟨k, hk, rfl⟩ := sail_of hN h16 hS
    have tk : (nI k).toNatClampNeg = k := nI_clamp (by omega)
    refine G.aload_n (pc := 0) cx dX0_advanceTo_0 rfl 0 rfl ?_
    refine G.iload_n (pc := 1) cx dX0_advanceTo_1 rfl 1 rfl ?_
    refine G.callV0 (pc := 2) (rest := []) (st1 := [.ref (b + 2 + k)]) cx (c_X0_findSailor l K sz b z V N k (by assumption) (by omega) (by omega)) ok_X0_findSailor dX0_advanceTo_2 wm_ml_X0_115 rfl bw_b rfl rfl (Nat.le_of_ble_eq_true rfl) ⟨Nat.le_of_ble_eq_true rfl, Nat.le_of_ble_eq_true rfl⟩ rfl ?_
    refine G.astore_n (pc := 5) cx dX0_advanceTo_5 rfl (by decide) rfl ?_
    refine G.aload_n (pc := 6) cx dX0_advanceTo_6 rfl 0 rfl ?_
    refine G.ifnull (pc := 7) cx dX0_advanceTo_7 ?_
    refine G.iload_n (pc := 10) cx dX0_advanceTo_10 rfl 3 rfl ?_
    refine G.iconst (pc := 11) cx dX0_advanceTo_11 (v := 1) (by decide) ?_
    refine G.sipush (pc := 12) cx dX0_advanceTo_12 (v := 999) (by decide) ?_
    refine G.callSN0 (pc := 15) (rest := []) (st1 := [.int (b2 (1 ≤ x ∧ x ≤ 999))]) cx (c_X9_within l K sz x 1 999 (bw K b z V)) ok_X9_within dX0_advanceTo_15 (by decide +kernel)  rfl (Nat.le_of_ble_eq_true rfl) ⟨Nat.le_of_ble_eq_true rfl, Nat.le_of_ble_eq_true rfl⟩ rfl ?_
    refine G.if_neB (pc := 18) cx dX0_advanceTo_18 (tgt := 24) (by decide) (fun cq18 => ?_) (fun cq18 => ?_)
    · skip
      refine G.aload_n (pc := 24) cx dX0_advanceTo_24 rfl 1 rfl ?_
      refine G.getB (pc := 25) cx dX0_advanceTo_25 9 wm_fl_X0_76 (by decide) rfl ?_
      refine G.if_ne (pc := 28) cx dX0_advanceTo_28 (tgt := 46) (by decide) (fun cq28 => ?_) (fun cq28 => ?_)
      · skip
        refine G.ldc (pc := 46) cx dX0_advanceTo_46 (v := (-1000002)) wm_ct_X0_85 ?_
        refine G.iret (pc := 48) cx rfl dX0_advanceTo_48 ?_ ?_ rfl
        · refine congrArg (fun x => some (Value.int x)) ?_
          (try clear hin9); (try clear cx); (try clear hN); first | (simp [cNoAdv, cDoAdv, *]; done) | (simp_all [cNoAdv, cDoAdv]; done)
        · refine congrArg (fun x => bw K b x V) ?_
          (try clear hin9); (try clear cx); (try clear hN); first | (simp [cNoAdv, cDoAdv, *]; done) | (simp_all [cNoAdv, cDoAdv]; done)
      · skip
        refine G.aload_n (pc := 31) cx dX0_advanceTo_31 rfl 0 rfl ?_
        refine G.callV0 (pc := 32) (rest := []) (st1 := [.int (b2 (z (10 * k + 2) = 2))]) cx (c_X6_isGone l K sz b z V k (by omega)) ok_X6_isGone dX0_advanceTo_32 wm_ml_X0_149 rfl (bw_s (by omega)) rfl rfl (Nat.le_of_ble_eq_true rfl) ⟨Nat.le_of_ble_eq_true rfl, Nat.le_of_ble_eq_true rfl⟩ rfl ?_
        refine G.if_neB (pc := 35) cx dX0_advanceTo_35 (tgt := 46) (by decide) (fun cq35 => ?_) (fun cq35 => ?_)
        · skip
          refine G.ldc (pc := 46) cx dX0_advanceTo_46 (v := (-1000002)) wm_ct_X0_85 ?_
          refine G.iret (pc := 48) cx rfl dX0_advanceTo_48 ?_ ?_ rfl
          · refine congrArg (fun x => some (Value.int x)) ?_
            (try clear hin9); (try clear cx); (try clear hN); first | (simp [cNoAdv, cDoAdv, *]; done) | (simp_all [cNoAdv, cDoAdv]; done)
          · refine congrArg (fun x => bw K b x V) ?_
            (try clear hin9); (try clear cx); (try clear hN); first | (simp [cNoAdv, cDoAdv, *]; done) | (simp_all [cNoAdv, cDoAdv]; done)
        · skip
          refine G.aload_n (pc := 38) cx dX0_advanceTo_38 rfl 0 rfl ?_
          refine G.callV0 (pc := 39) (rest := []) (st1 := [.int (cBal z k)]) cx (c_X6_balance l K sz b z V k (by omega)) ok_X6_balance dX0_advanceTo_39 wm_ml_X0_139 rfl (bw_s (by omega)) rfl rfl (Nat.le_of_ble_eq_true rfl) ⟨Nat.le_of_ble_eq_true rfl, Nat.le_of_ble_eq_true rfl⟩ rfl ?_
          refine G.iload_n (pc := 42) cx dX0_advanceTo_42 rfl 3 rfl ?_
          refine G.icmp_ge (pc := 43) cx dX0_advanceTo_43 (tgt := 49) (by decide) (fun cq43 => ?_) (fun cq43 => ?_)
          · skip
            have nq43 := Int32.not_lt.mpr cq43
            refine G.aload_n (pc := 49) cx dX0_advanceTo_49 rfl 0 rfl ?_
            refine G.dup (pc := 50) cx dX0_advanceTo_50 rfl ?_
            refine G.getS (pc := 51) cx dX0_advanceTo_51 7 wm_fl_X0_153 (by decide) (by omega) rfl ?_
            refine G.iload_n (pc := 54) cx dX0_advanceTo_54 rfl 3 rfl ?_
            refine G.iadd (pc := 55) cx dX0_advanceTo_55 ?_
            refine G.putS (pc := 56) cx dX0_advanceTo_56 7 wm_fl_X0_153 (by decide) (by decide) (by omega) ?_
            refine G.aload_n (pc := 59) cx dX0_advanceTo_59 rfl 1 rfl ?_
            refine G.getB (pc := 60) cx dX0_advanceTo_60 4 wm_fl_X0_46 (by decide) rfl ?_
            refine G.dup (pc := 63) cx dX0_advanceTo_63 rfl ?_
            refine G.getT (pc := 64) cx dX0_advanceTo_64 3 wm_fl_X0_156 (by decide) (congrArg (fun x => some (Value.int x)) (upd_n (i := 10 * k + 7) (j := 198) z ((z (10 * k + 7)) + x) (by omega))) ?_
            refine G.iload_n (pc := 67) cx dX0_advanceTo_67 rfl 3 rfl ?_
            refine G.iadd (pc := 68) cx dX0_advanceTo_68 ?_
            refine G.putT (pc := 69) cx dX0_advanceTo_69 3 wm_fl_X0_156 (by decide) ?_
            refine G.aload_n (pc := 72) cx dX0_advanceTo_72 rfl 1 rfl ?_
            refine G.getB (pc := 73) cx dX0_advanceTo_73 4 wm_fl_X0_46 (by decide) rfl ?_
            refine G.iload_n (pc := 76) cx dX0_advanceTo_76 rfl 3 rfl ?_
            refine G.callV0 (pc := 77) (rest := []) (st1 := []) cx (c_X8_takeCash l K sz b (upd (upd z (10 * k + 7) ((z (10 * k + 7)) + x)) (195 + 3) ((z 198) + x)) V x) ok_X8_takeCash dX0_advanceTo_77 wm_ml_X0_101 rfl bw_t rfl rfl (Nat.le_of_ble_eq_true rfl) ⟨Nat.le_of_ble_eq_true rfl, Nat.le_of_ble_eq_true rfl⟩ rfl ?_
            refine G.aload_n (pc := 80) cx dX0_advanceTo_80 rfl 1 rfl ?_
            refine G.getB (pc := 81) cx dX0_advanceTo_81 3 wm_fl_X0_39 (by decide) rfl ?_
            refine G.iload_n (pc := 84) cx dX0_advanceTo_84 rfl 2 rfl ?_
            refine G.iconst (pc := 85) cx dX0_advanceTo_85 (v := 2) (by decide) ?_
            refine G.iload_n (pc := 86) cx dX0_advanceTo_86 rfl 3 rfl ?_
            refine G.callV0 (pc := 87) (rest := []) (st1 := []) cx (c_X1_enter l K sz b (cTake (upd (upd z (10 * k + 7) ((z (10 * k + 7)) + x)) (195 + 3) ((z 198) + x)) x) V (nI k) 2 x) ok_X1_enter dX0_advanceTo_87 wm_ml_X0_132 rfl bw_e rfl rfl (Nat.le_of_ble_eq_true rfl) ⟨Nat.le_of_ble_eq_true rfl, Nat.le_of_ble_eq_true rfl⟩ rfl ?_
            refine G.aload_n (pc := 90) cx dX0_advanceTo_90 rfl 1 rfl ?_
            refine G.getB (pc := 91) cx dX0_advanceTo_91 4 wm_fl_X0_46 (by decide) rfl ?_
            refine G.getT (pc := 94) cx dX0_advanceTo_94 0 wm_fl_X0_159 (by decide) rfl ?_
            refine G.iret (pc := 97) cx rfl dX0_advanceTo_97 ?_ ?_ rfl
            · refine congrArg (fun x => some (Value.int x)) ?_
              (try clear hin9); (try clear cx); (try clear hN); first | (simp [cNoAdv, cDoAdv, *]; done) | (simp_all [cNoAdv, cDoAdv]; done)
            · refine congrArg (fun x => bw K b x V) ?_
              (try clear hin9); (try clear cx); (try clear hN); first | (simp [cNoAdv, cDoAdv, *]; done) | (simp_all [cNoAdv, cDoAdv]; done)
          · skip
            have nq43 := Int32.not_le.mp cq43
            refine G.ldc (pc := 46) cx dX0_advanceTo_46 (v := (-1000002)) wm_ct_X0_85 ?_
            refine G.iret (pc := 48) cx rfl dX0_advanceTo_48 ?_ ?_ rfl
            · refine congrArg (fun x => some (Value.int x)) ?_
              (try clear hin9); (try clear cx); (try clear hN); first | (simp [cNoAdv, cDoAdv, *]; done) | (simp_all [cNoAdv, cDoAdv]; done)
            · refine congrArg (fun x => bw K b x V) ?_
              (try clear hin9); (try clear cx); (try clear hN); first | (simp [cNoAdv, cDoAdv, *]; done) | (simp_all [cNoAdv, cDoAdv]; done)
    · skip
      refine G.ldc (pc := 21) cx dX0_advanceTo_21 (v := (-1000001)) wm_ct_X0_84 ?_
      refine G.iret (pc := 23) cx rfl dX0_advanceTo_23 ?_ ?_ rfl
      · refine congrArg (fun x => some (Value.int x)) ?_
        (try clear hin9); (try clear cx); (try clear hN); first | (simp [cNoAdv, cDoAdv, *]; done) | (simp_all [cNoAdv, cDoAdv]; done)
      · refine congrArg (fun x => bw K b x V) ?_
        (try clear hin9); (try clear cx); (try clear hN); first | (simp [cNoAdv, cDoAdv, *]; done) | (simp_all [cNoAdv, cDoAdv]; done)
  · skip
    refine G.aload_n (pc := 0) cx dX0_advanceTo_0 rfl 0 rfl ?_
    refine G.iload_n (pc := 1) cx dX0_advanceTo_1 rfl 1 rfl ?_
    refine G.callV0 (pc := 2) (rest := []) (st1 := [.null]) cx (c_X0_findSailorN l K sz b z V N a (by assumption) (by omega) (by assumption)) ok_X0_findSailor dX0_advanceTo_2 wm_ml_X0_115 rfl bw_b rfl rfl (Nat.le_of_ble_eq_true rfl) ⟨Nat.le_of_ble_eq_true rfl, Nat.le_of_ble_eq_true rfl⟩ rfl ?_
    refine G.astore_nN (pc := 5) cx dX0_advanceTo_5 rfl (by decide) rfl ?_
    refine G.aload_nN (pc := 6) cx dX0_advanceTo_6 rfl 0 rfl ?_
    refine G.ifnullN (pc := 7) cx dX0_advanceTo_7 (tgt := 21) (by decide) ?_
    refine G.ldc (pc := 21) cx dX0_advanceTo_21 (v := (-1000001)) wm_ct_X0_84 ?_
    refine G.iret (pc := 23) cx rfl dX0_advanceTo_23 ?_ ?_ rfl
    · refine congrArg (fun x => some (Value.int x)) ?_
      (try clear hin9); (try clear cx); (try clear hN); first | (simp [cNoAdv, cDoAdv, *]; done) | (simp_all [cNoAdv, cDoAdv]; done)
    · refine congrArg (fun x => bw K b x V) ?_
      (try clear hin9); (try clear cx); (try clear hN); first | (simp [cNoAdv, cDoAdv, *]; done) | (simp_all [cNoAdv, cDoAdv]; done)
set_option maxHeartbeats 4000000 in
set_option maxRecDepth 100000 in
theorem c_X0_chargeFine (l : Launch) (K : KT) (sz : Nat) (b : Nat) (z : Zt) (V : VW) (k : Nat) (x : Int32) (hk : k < 16) : Ct l K yX0_chargeFine cX0_chargeFine 4 none 2 [.ref b, .int (nI k), .ref (b + 2 + k), .int x] (bw K b z V) sz none (bw K b (cFine z k x) V) sz 0 0 := by
  refine Ct.ofG (by decide) (Nat.le_of_ble_eq_true rfl) ?_
  intro p9 e9 s9 m9 a9 b9 t9 c9 cx hin9
  refine G.lv0 (lv2 := [(0, .ref b), (1, .int (nI k)), (2, .ref (b + 2 + k)), (3, .int x)]) rfl ?_
  refine G.aload_n (pc := 0) cx dX0_chargeFine_0 rfl 2 rfl ?_
  refine G.dup (pc := 1) cx dX0_chargeFine_1 rfl ?_
  refine G.getS (pc := 2) cx dX0_chargeFine_2 6 wm_fl_X0_170 (by decide) (by omega) rfl ?_
  refine G.iload_n (pc := 5) cx dX0_chargeFine_5 rfl 3 rfl ?_
  refine G.iadd (pc := 6) cx dX0_chargeFine_6 ?_
  refine G.putS (pc := 7) cx dX0_chargeFine_7 6 wm_fl_X0_170 (by decide) (by decide) (by omega) ?_
  refine G.aload_n (pc := 10) cx dX0_chargeFine_10 rfl 0 rfl ?_
  refine G.getB (pc := 11) cx dX0_chargeFine_11 4 wm_fl_X0_46 (by decide) rfl ?_
  refine G.dup (pc := 14) cx dX0_chargeFine_14 rfl ?_
  refine G.getT (pc := 15) cx dX0_chargeFine_15 6 wm_fl_X0_173 (by decide) (congrArg (fun x => some (Value.int x)) (upd_n (i := 10 * k + 6) (j := 201) z ((z (10 * k + 6)) + x) (by omega))) ?_
  refine G.iload_n (pc := 18) cx dX0_chargeFine_18 rfl 3 rfl ?_
  refine G.iadd (pc := 19) cx dX0_chargeFine_19 ?_
  refine G.putT (pc := 20) cx dX0_chargeFine_20 6 wm_fl_X0_173 (by decide) ?_
  refine G.aload_n (pc := 23) cx dX0_chargeFine_23 rfl 0 rfl ?_
  refine G.getB (pc := 24) cx dX0_chargeFine_24 3 wm_fl_X0_39 (by decide) rfl ?_
  refine G.iload_n (pc := 27) cx dX0_chargeFine_27 rfl 1 rfl ?_
  refine G.iconst (pc := 28) cx dX0_chargeFine_28 (v := 1) (by decide) ?_
  refine G.iload_n (pc := 29) cx dX0_chargeFine_29 rfl 3 rfl ?_
  refine G.callV0 (pc := 30) (rest := []) (st1 := []) cx (c_X1_enter l K sz b (upd (upd z (10 * k + 6) ((z (10 * k + 6)) + x)) (195 + 6) ((z 201) + x)) V (nI k) 1 x) ok_X1_enter dX0_chargeFine_30 wm_ml_X0_132 rfl bw_e rfl rfl (Nat.le_of_ble_eq_true rfl) ⟨Nat.le_of_ble_eq_true rfl, Nat.le_of_ble_eq_true rfl⟩ rfl ?_
  refine G.vret (pc := 33) cx rfl dX0_chargeFine_33 rfl ?_ rfl
  · refine congrArg (fun x => bw K b x V) ?_
    (try clear hin9); (try clear cx); rfl
set_option maxHeartbeats 4000000 in
set_option maxRecDepth 100000 in
theorem c_X0_fineOne (l : Launch) (K : KT) (sz : Nat) (b : Nat) (z : Zt) (V : VW) (a : Int32) (x : Int32) (N : Nat) (hN : z 194 = nI N) (h16 : N ≤ 16) : Ct l K yX0_fineOne cX0_fineOne 4 (some .int) 3 [.ref b, .int a, .int x] (bw K b z V) sz (some (.int (if cNoFine z a x < 0 then cNoFine z a x else 5000 + cBal (cFine z (a).toNatClampNeg x) (a).toNatClampNeg))) (bw K b (if cNoFine z a x < 0 then z else cFine z (a).toNatClampNeg x) V) sz 0 0 := by
  refine Ct.ofG (by decide) (Nat.le_of_ble_eq_true rfl) ?_
  intro p9 e9 s9 m9 a9 b9 t9 c9 cx hin9
  refine G.lv0 (lv2 := [(0, .ref b), (1, .int a), (2, .int x)]) rfl ?_
  by_cases hS : 0 ≤ a ∧ a ≤ z 194 - 1
  · skip
    obtain ⟨k, hk, rfl⟩ := sail_of hN h16 hS
    have tk : (nI k).toNatClampNeg = k := nI_clamp (by omega)
    refine G.aload_n (pc := 0) cx dX0_fineOne_0 rfl 0 rfl ?_
    refine G.iload_n (pc := 1) cx dX0_fineOne_1 rfl 1 rfl ?_
    refine G.callV0 (pc := 2) (rest := []) (st1 := [.ref (b + 2 + k)]) cx (c_X0_findSailor l K sz b z V N k (by assumption) (by omega) (by omega)) ok_X0_findSailor dX0_fineOne_2 wm_ml_X0_115 rfl bw_b rfl rfl (Nat.le_of_ble_eq_true rfl) ⟨Nat.le_of_ble_eq_true rfl, Nat.le_of_ble_eq_true rfl⟩ rfl ?_
    refine G.astore_n (pc := 5) cx dX0_fineOne_5 rfl (by decide) rfl ?_
    refine G.aload_n (pc := 6) cx dX0_fineOne_6 rfl 0 rfl ?_
    refine G.ifnull (pc := 7) cx dX0_fineOne_7 ?_
    refine G.iload_n (pc := 10) cx dX0_fineOne_10 rfl 3 rfl ?_
    refine G.iconst (pc := 11) cx dX0_fineOne_11 (v := 1) (by decide) ?_
    refine G.sipush (pc := 12) cx dX0_fineOne_12 (v := 999) (by decide) ?_
    refine G.callSN0 (pc := 15) (rest := []) (st1 := [.int (b2 (1 ≤ x ∧ x ≤ 999))]) cx (c_X9_within l K sz x 1 999 (bw K b z V)) ok_X9_within dX0_fineOne_15 (by decide +kernel)  rfl (Nat.le_of_ble_eq_true rfl) ⟨Nat.le_of_ble_eq_true rfl, Nat.le_of_ble_eq_true rfl⟩ rfl ?_
    refine G.if_neB (pc := 18) cx dX0_fineOne_18 (tgt := 24) (by decide) (fun cq18 => ?_) (fun cq18 => ?_)
    · skip
      refine G.aload_n (pc := 24) cx dX0_fineOne_24 rfl 0 rfl ?_
      refine G.callV0 (pc := 25) (rest := []) (st1 := [.int (b2 (z (10 * k + 2) = 2))]) cx (c_X6_isGone l K sz b z V k (by omega)) ok_X6_isGone dX0_fineOne_25 wm_ml_X0_149 rfl (bw_s (by omega)) rfl rfl (Nat.le_of_ble_eq_true rfl) ⟨Nat.le_of_ble_eq_true rfl, Nat.le_of_ble_eq_true rfl⟩ rfl ?_
      refine G.if_neB (pc := 28) cx dX0_fineOne_28 (tgt := 39) (by decide) (fun cq28 => ?_) (fun cq28 => ?_)
      · skip
        refine G.ldc (pc := 39) cx dX0_fineOne_39 (v := (-1000002)) wm_ct_X0_85 ?_
        refine G.iret (pc := 41) cx rfl dX0_fineOne_41 ?_ ?_ rfl
        · refine congrArg (fun x => some (Value.int x)) ?_
          (try clear hin9); (try clear cx); (try clear hN); first | (simp [cNoFine, *]; done) | (simp_all [cNoFine]; done)
        · refine congrArg (fun x => bw K b x V) ?_
          (try clear hin9); (try clear cx); (try clear hN); first | (simp [cNoFine, *]; done) | (simp_all [cNoFine]; done)
      · skip
        refine G.aload_n (pc := 31) cx dX0_fineOne_31 rfl 0 rfl ?_
        refine G.iload_n (pc := 32) cx dX0_fineOne_32 rfl 3 rfl ?_
        refine G.callV0 (pc := 33) (rest := []) (st1 := [.int (b2 (¬ cBal z k - x < -4000))]) cx (c_X6_couldBeFined l K sz b z V k x (by omega)) ok_X6_couldBeFined dX0_fineOne_33 wm_ml_X0_162 rfl (bw_s (by omega)) rfl rfl (Nat.le_of_ble_eq_true rfl) ⟨Nat.le_of_ble_eq_true rfl, Nat.le_of_ble_eq_true rfl⟩ rfl ?_
        refine G.if_neB (pc := 36) cx dX0_fineOne_36 (tgt := 42) (by decide) (fun cq36 => ?_) (fun cq36 => ?_)
        · skip
          refine G.aload_n (pc := 42) cx dX0_fineOne_42 rfl 1 rfl ?_
          refine G.iload_n (pc := 43) cx dX0_fineOne_43 rfl 2 rfl ?_
          refine G.aload_n (pc := 44) cx dX0_fineOne_44 rfl 0 rfl ?_
          refine G.iload_n (pc := 45) cx dX0_fineOne_45 rfl 3 rfl ?_
          refine G.callV0 (pc := 46) (rest := []) (st1 := []) cx (c_X0_chargeFine l K sz b z V k x (by omega)) ok_X0_chargeFine dX0_fineOne_46 wm_ml_X0_166 rfl bw_b rfl rfl (Nat.le_of_ble_eq_true rfl) ⟨Nat.le_of_ble_eq_true rfl, Nat.le_of_ble_eq_true rfl⟩ rfl ?_
          refine G.sipush (pc := 49) cx dX0_fineOne_49 (v := 5000) (by decide) ?_
          refine G.aload_n (pc := 52) cx dX0_fineOne_52 rfl 0 rfl ?_
          refine G.callV0 (pc := 53) (rest := [.int 5000]) (st1 := [.int (cBal (cFine z k x) k), .int 5000]) cx (c_X6_balance l K sz b (cFine z k x) V k (by omega)) ok_X6_balance dX0_fineOne_53 wm_ml_X0_139 rfl (bw_s (by omega)) rfl rfl (Nat.le_of_ble_eq_true rfl) ⟨Nat.le_of_ble_eq_true rfl, Nat.le_of_ble_eq_true rfl⟩ rfl ?_
          refine G.iadd (pc := 56) cx dX0_fineOne_56 ?_
          refine G.iret (pc := 57) cx rfl dX0_fineOne_57 ?_ ?_ rfl
          · refine congrArg (fun x => some (Value.int x)) ?_
            (try clear hin9); (try clear cx); (try clear hN); first | (simp [cNoFine, *]; done) | (simp_all [cNoFine]; done)
          · refine congrArg (fun x => bw K b x V) ?_
            (try clear hin9); (try clear cx); (try clear hN); first | (simp [cNoFine, *]; done) | (simp_all [cNoFine]; done)
        · skip
          refine G.ldc (pc := 39) cx dX0_fineOne_39 (v := (-1000002)) wm_ct_X0_85 ?_
          refine G.iret (pc := 41) cx rfl dX0_fineOne_41 ?_ ?_ rfl
          · refine congrArg (fun x => some (Value.int x)) ?_
            (try clear hin9); (try clear cx); (try clear hN); first | (simp [cNoFine, *]; done) | (simp_all [cNoFine]; done)
          · refine congrArg (fun x => bw K b x V) ?_
            (try clear hin9); (try clear cx); (try clear hN); first | (simp [cNoFine, *]; done) | (simp_all [cNoFine]; done)
    · skip
      refine G.ldc (pc := 21) cx dX0_fineOne_21 (v := (-1000001)) wm_ct_X0_84 ?_
      refine G.iret (pc := 23) cx rfl dX0_fineOne_23 ?_ ?_ rfl
      · refine congrArg (fun x => some (Value.int x)) ?_
        (try clear hin9); (try clear cx); (try clear hN); first | (simp [cNoFine, *]; done) | (simp_all [cNoFine]; done)
      · refine congrArg (fun x => bw K b x V) ?_
        (try clear hin9); (try clear cx); (try clear hN); first | (simp [cNoFine, *]; done) | (simp_all [cNoFine]; done)
  · skip
    refine G.aload_n (pc := 0) cx dX0_fineOne_0 rfl 0 rfl ?_
    refine G.iload_n (pc := 1) cx dX0_fineOne_1 rfl 1 rfl ?_
    refine G.callV0 (pc := 2) (rest := []) (st1 := [.null]) cx (c_X0_findSailorN l K sz b z V N a (by assumption) (by omega) (by assumption)) ok_X0_findSailor dX0_fineOne_2 wm_ml_X0_115 rfl bw_b rfl rfl (Nat.le_of_ble_eq_true rfl) ⟨Nat.le_of_ble_eq_true rfl, Nat.le_of_ble_eq_true rfl⟩ rfl ?_
    refine G.astore_nN (pc := 5) cx dX0_fineOne_5 rfl (by decide) rfl ?_
    refine G.aload_nN (pc := 6) cx dX0_fineOne_6 rfl 0 rfl ?_
    refine G.ifnullN (pc := 7) cx dX0_fineOne_7 (tgt := 21) (by decide) ?_
    refine G.ldc (pc := 21) cx dX0_fineOne_21 (v := (-1000001)) wm_ct_X0_84 ?_
    refine G.iret (pc := 23) cx rfl dX0_fineOne_23 ?_ ?_ rfl
    · refine congrArg (fun x => some (Value.int x)) ?_
      (try clear hin9); (try clear cx); (try clear hN); first | (simp [cNoFine, *]; done) | (simp_all [cNoFine]; done)
    · refine congrArg (fun x => bw K b x V) ?_
      (try clear hin9); (try clear cx); (try clear hN); first | (simp [cNoFine, *]; done) | (simp_all [cNoFine]; done)
set_option maxHeartbeats 4000000 in
set_option maxRecDepth 100000 in
theorem c_X0_sizeOfWatch (l : Launch) (K : KT) (sz : Nat) (b : Nat) (z : Zt) (V : VW) (w : Int32) (N : Nat) (hN : z 194 = nI N) (h16 : N ≤ 16) : Ct l K yX0_sizeOfWatch cX0_sizeOfWatch 4 (some .int) 2 [.ref b, .int w] (bw K b z V) sz (some (.int (nI (zOfW z w N)))) (bw K b z V) sz 0 0 := by
  refine Ct.ofG (by decide) (Nat.le_of_ble_eq_true rfl) ?_
  intro p9 e9 s9 m9 a9 b9 t9 c9 cx hin9
  refine G.lv0 (lv2 := [(0, .ref b), (1, .int w)]) rfl ?_
  refine G.iconst (pc := 0) cx dX0_sizeOfWatch_0 (v := 0) (by decide) ?_
  refine G.istore_n (pc := 1) cx dX0_sizeOfWatch_1 rfl (by decide) rfl ?_
  refine G.iconst (pc := 2) cx dX0_sizeOfWatch_2 (v := 0) (by decide) ?_
  refine G.istore_n (pc := 3) cx dX0_sizeOfWatch_3 rfl (by decide) rfl ?_
  have L4_1 : ∀ (f k4 : Nat), N - k4 < f → k4 ≤ N → G K p9 l e9 (rmL 2 0 0) s9 m9 a9 b9 t9 c9 (MQ b9 (QCt K (some (.int (nI (zOfW z w N)))) (bw K b z V) sz) a9 s9 0 0 (kA K)) 4 (bw K b z V) sz 0 0 4 [(0, .ref b), (1, .int w), (2, .int (nI (zOfW z w k4))), (3, .int (nI k4))] [] := by
    intro f
    induction f with
    | zero => intro k4 h9; omega
    | succ f ih4 =>
      intro k4 h94 h84
      refine G.iload_n (pc := 4) cx dX0_sizeOfWatch_4 rfl 3 rfl ?_
      refine G.aload_n (pc := 5) cx dX0_sizeOfWatch_5 rfl 0 rfl ?_
      refine G.getB (pc := 6) cx dX0_sizeOfWatch_6 5 wm_fl_X0_63 (by decide) (congrArg (fun x => some (Value.int x)) (hN)) ?_
      refine G.icmp_geN (pc := 9) cx k4 N (by omega) (by omega) dX0_sizeOfWatch_9 (tgt := 43) (by decide) (fun cq9 => ?_) (fun cq9 => ?_)
      · skip
        have nq9 := Nat.not_lt.mpr cq9
        have ex4 : k4 = N := by omega
        try rw [ex4]
        refine G.iload_n (pc := 43) cx dX0_sizeOfWatch_43 rfl 2 rfl ?_
        refine G.iret (pc := 44) cx rfl dX0_sizeOfWatch_44 ?_ ?_ rfl
        · rfl
        · rfl
      · skip
        have nq9 := Nat.not_le.mpr cq9
        refine G.iload_n (pc := 12) cx dX0_sizeOfWatch_12 rfl 3 rfl ?_
        refine G.aload_n (pc := 13) cx dX0_sizeOfWatch_13 rfl 0 rfl ?_
        refine G.getB (pc := 14) cx dX0_sizeOfWatch_14 0 wm_fl_X0_11 (by decide) rfl ?_
        refine G.alenV (pc := 17) cx dX0_sizeOfWatch_17 1 rfl bw_crew (v := 16) rfl ?_
        refine G.icmp_geN (pc := 18) cx k4 16 (by omega) (by omega) dX0_sizeOfWatch_18 (tgt := 43) (by decide) (fun cq18 => ?_) (fun cq18 => ?_)
        · skip
          exact absurd cq18 (by omega)
        · skip
          have nq18 := Nat.not_le.mpr cq18
          refine G.aload_n (pc := 21) cx dX0_sizeOfWatch_21 rfl 0 rfl ?_
          refine G.getB (pc := 22) cx dX0_sizeOfWatch_22 0 wm_fl_X0_11 (by decide) rfl ?_
          refine G.iload_n (pc := 25) cx dX0_sizeOfWatch_25 rfl 3 rfl ?_
          refine G.aaldV (pc := 26) cx dX0_sizeOfWatch_26 1 rfl bw_crew (j := k4) rfl (by omega) (by decide) rfl ?_
          refine G.iload_n (pc := 27) cx dX0_sizeOfWatch_27 rfl 1 rfl ?_
          refine G.callV0 (pc := 28) (rest := []) (st1 := [.int (b2 (z (10 * k4 + 1) = w ∧ ¬ z (10 * k4 + 2) = 2))]) cx (c_X6_isOfWatch l K sz b z V k4 w (by omega)) ok_X6_isOfWatch dX0_sizeOfWatch_28 wm_ml_X0_180 rfl (bw_s (by omega)) rfl rfl (Nat.le_of_ble_eq_true rfl) ⟨Nat.le_of_ble_eq_true rfl, Nat.le_of_ble_eq_true rfl⟩ rfl ?_
          refine G.if_eqB (pc := 31) cx dX0_sizeOfWatch_31 (tgt := 37) (by decide) (fun cq31 => ?_) (fun cq31 => ?_)
          · skip
            refine G.iinc (pc := 37) cx dX0_sizeOfWatch_37 (v := nI (k4 + 1)) (k := 3) rfl (nI_add k4 1) (by decide) rfl ?_
            refine G.goto (pc := 40) cx dX0_sizeOfWatch_40 (tgt := 4) (by decide) ?_
            refine G.castL (lv' := [(0, .ref b), (1, .int w), (2, .int (nI (zOfW z w k4))), (3, .int (nI (k4 + 1)))]) [1, 2, 3, 0] rfl ?_
            refine G.lv0 (lv2 := [(0, .ref b), (1, .int w), (2, .int (nI (zOfW z w (k4 + 1)))), (3, .int (nI (k4 + 1)))]) (congrArg (fun q9 => ([(0, .ref b), (1, .int w), (2, .int q9), (3, .int (nI (k4 + 1)))] : List (Nat × Value))) (show (nI (zOfW z w k4) : Int32) = nI (zOfW z w (k4 + 1)) from by first | (simp [zOfW, *]; done) | (simp_all [zOfW]; done))) ?_
            exact ih4 (k4 + 1) (by omega) (by omega)
          · skip
            refine G.iinc (pc := 34) cx dX0_sizeOfWatch_34 (v := nI (zOfW z w k4 + 1)) (k := 2) rfl (nI_add (zOfW z w k4) 1) (by decide) rfl ?_
            refine G.iinc (pc := 37) cx dX0_sizeOfWatch_37 (v := nI (k4 + 1)) (k := 3) rfl (nI_add k4 1) (by decide) rfl ?_
            refine G.goto (pc := 40) cx dX0_sizeOfWatch_40 (tgt := 4) (by decide) ?_
            refine G.castL (lv' := [(0, .ref b), (1, .int w), (2, .int (nI (zOfW z w k4 + 1))), (3, .int (nI (k4 + 1)))]) [2, 3, 1, 0] rfl ?_
            refine G.lv0 (lv2 := [(0, .ref b), (1, .int w), (2, .int (nI (zOfW z w (k4 + 1)))), (3, .int (nI (k4 + 1)))]) (congrArg (fun q9 => ([(0, .ref b), (1, .int w), (2, .int q9), (3, .int (nI (k4 + 1)))] : List (Nat × Value))) (show (nI (zOfW z w k4 + 1) : Int32) = nI (zOfW z w (k4 + 1)) from by first | (simp [zOfW, *]; done) | (simp_all [zOfW]; done))) ?_
            exact ih4 (k4 + 1) (by omega) (by omega)
  refine G.castL (lv' := [(0, .ref b), (1, .int w), (2, .int 0), (3, .int 0)]) [2, 3, 1, 0] rfl ?_
  refine G.lv0 (lv2 := [(0, .ref b), (1, .int w), (2, .int (nI (zOfW z w 0))), (3, .int 0)]) (congrArg (fun q9 => ([(0, .ref b), (1, .int w), (2, .int q9), (3, .int 0)] : List (Nat × Value))) (show (0 : Int32) = nI (zOfW z w 0) from by rfl)) ?_
  refine G.lv0 (lv2 := [(0, .ref b), (1, .int w), (2, .int (nI (zOfW z w 0))), (3, .int (nI 0))]) (congrArg (fun q9 => ([(0, .ref b), (1, .int w), (2, .int (nI (zOfW z w 0))), (3, .int q9)] : List (Nat × Value))) (show (0 : Int32) = nI 0 from by rfl)) ?_
  exact L4_1 (N + 1) 0 (by omega) (by omega)
set_option maxHeartbeats 4000000 in
set_option maxRecDepth 100000 in
theorem c_X0_setOf (l : Launch) (K : KT) (sz : Nat) (b : Nat) (z : Zt) (V : VW) (q : Int32) (N : Nat) (hN : z 194 = nI N) (h16 : N ≤ 16) : Ct l K yX0_setOf cX0_setOf 4 (some .int) 0 [.ref b, .int q] (bw K b z V) sz (some (.int (zSet z q N))) (bw K b z V) sz 0 0 := by
  refine Ct.ofG (by decide) (Nat.le_of_ble_eq_true rfl) ?_
  intro p9 e9 s9 m9 a9 b9 t9 c9 cx hin9
  refine G.lv0 (lv2 := [(0, .ref b), (1, .int q)]) rfl ?_
  refine G.iconst (pc := 0) cx dX0_setOf_0 (v := 0) (by decide) ?_
  refine G.istore_n (pc := 1) cx dX0_setOf_1 rfl (by decide) rfl ?_
  refine G.iconst (pc := 2) cx dX0_setOf_2 (v := 0) (by decide) ?_
  refine G.istore_n (pc := 3) cx dX0_setOf_3 rfl (by decide) rfl ?_
  have L4_1 : ∀ (f k4 : Nat), N - k4 < f → k4 ≤ N → G K p9 l e9 (rmL 0 0 0) s9 m9 a9 b9 t9 c9 (MQ b9 (QCt K (some (.int (zSet z q N))) (bw K b z V) sz) a9 s9 0 0 (kA K)) 4 (bw K b z V) sz 0 0 4 [(0, .ref b), (1, .int q), (2, .int (zSet z q k4)), (3, .int (nI k4))] [] := by
    intro f
    induction f with
    | zero => intro k4 h9; omega
    | succ f ih4 =>
      intro k4 h94 h84
      refine G.iload_n (pc := 4) cx dX0_setOf_4 rfl 3 rfl ?_
      refine G.aload_n (pc := 5) cx dX0_setOf_5 rfl 0 rfl ?_
      refine G.getB (pc := 6) cx dX0_setOf_6 5 wm_fl_X0_63 (by decide) (congrArg (fun x => some (Value.int x)) (hN)) ?_
      refine G.icmp_geN (pc := 9) cx k4 N (by omega) (by omega) dX0_setOf_9 (tgt := 46) (by decide) (fun cq9 => ?_) (fun cq9 => ?_)
      · skip
        have nq9 := Nat.not_lt.mpr cq9
        have ex4 : k4 = N := by omega
        try rw [ex4]
        refine G.iload_n (pc := 46) cx dX0_setOf_46 rfl 2 rfl ?_
        refine G.iret (pc := 47) cx rfl dX0_setOf_47 ?_ ?_ rfl
        · rfl
        · rfl
      · skip
        have nq9 := Nat.not_le.mpr cq9
        refine G.iload_n (pc := 12) cx dX0_setOf_12 rfl 3 rfl ?_
        refine G.aload_n (pc := 13) cx dX0_setOf_13 rfl 0 rfl ?_
        refine G.getB (pc := 14) cx dX0_setOf_14 0 wm_fl_X0_11 (by decide) rfl ?_
        refine G.alenV (pc := 17) cx dX0_setOf_17 1 rfl bw_crew (v := 16) rfl ?_
        refine G.icmp_geN (pc := 18) cx k4 16 (by omega) (by omega) dX0_setOf_18 (tgt := 46) (by decide) (fun cq18 => ?_) (fun cq18 => ?_)
        · skip
          exact absurd cq18 (by omega)
        · skip
          have nq18 := Nat.not_le.mpr cq18
          refine G.aload_n (pc := 21) cx dX0_setOf_21 rfl 0 rfl ?_
          refine G.getB (pc := 22) cx dX0_setOf_22 0 wm_fl_X0_11 (by decide) rfl ?_
          refine G.iload_n (pc := 25) cx dX0_setOf_25 rfl 3 rfl ?_
          refine G.aaldV (pc := 26) cx dX0_setOf_26 1 rfl bw_crew (j := k4) rfl (by omega) (by decide) rfl ?_
          refine G.getS (pc := 27) cx dX0_setOf_27 2 wm_fl_X0_136 (by decide) (by omega) rfl ?_
          refine G.iload_n (pc := 30) cx dX0_setOf_30 rfl 1 rfl ?_
          refine G.icmp_ne (pc := 31) cx dX0_setOf_31 (tgt := 40) (by decide) (fun cq31 => ?_) (fun cq31 => ?_)
          · skip
            refine G.iinc (pc := 40) cx dX0_setOf_40 (v := nI (k4 + 1)) (k := 3) rfl (nI_add k4 1) (by decide) rfl ?_
            refine G.goto (pc := 43) cx dX0_setOf_43 (tgt := 4) (by decide) ?_
            refine G.castL (lv' := [(0, .ref b), (1, .int q), (2, .int (zSet z q k4)), (3, .int (nI (k4 + 1)))]) [1, 2, 3, 0] rfl ?_
            refine G.lv0 (lv2 := [(0, .ref b), (1, .int q), (2, .int (zSet z q (k4 + 1))), (3, .int (nI (k4 + 1)))]) (congrArg (fun q9 => ([(0, .ref b), (1, .int q), (2, .int q9), (3, .int (nI (k4 + 1)))] : List (Nat × Value))) (show (zSet z q k4 : Int32) = zSet z q (k4 + 1) from by first | (simp [zSet, *]; done) | (simp_all [zSet]; done))) ?_
            exact ih4 (k4 + 1) (by omega) (by omega)
          · skip
            refine G.iload_n (pc := 34) cx dX0_setOf_34 rfl 2 rfl ?_
            refine G.iconst (pc := 35) cx dX0_setOf_35 (v := 1) (by decide) ?_
            refine G.iload_n (pc := 36) cx dX0_setOf_36 rfl 3 rfl ?_
            refine G.ishl (pc := 37) cx dX0_setOf_37 ?_
            refine G.ior (pc := 38) cx dX0_setOf_38 ?_
            refine G.istore_n (pc := 39) cx dX0_setOf_39 rfl (by decide) rfl ?_
            refine G.iinc (pc := 40) cx dX0_setOf_40 (v := nI (k4 + 1)) (k := 3) rfl (nI_add k4 1) (by decide) rfl ?_
            refine G.goto (pc := 43) cx dX0_setOf_43 (tgt := 4) (by decide) ?_
            refine G.castL (lv' := [(0, .ref b), (1, .int q), (2, .int ((zSet z q k4) ||| (1 <<< ((nI k4) &&& 31)))), (3, .int (nI (k4 + 1)))]) [2, 3, 1, 0] rfl ?_
            refine G.lv0 (lv2 := [(0, .ref b), (1, .int q), (2, .int (zSet z q (k4 + 1))), (3, .int (nI (k4 + 1)))]) (congrArg (fun q9 => ([(0, .ref b), (1, .int q), (2, .int q9), (3, .int (nI (k4 + 1)))] : List (Nat × Value))) (show ((zSet z q k4) ||| (1 <<< ((nI k4) &&& 31)) : Int32) = zSet z q (k4 + 1) from by first | (simp [zSet, *]; done) | (simp_all [zSet]; done))) ?_
            exact ih4 (k4 + 1) (by omega) (by omega)
  refine G.castL (lv' := [(0, .ref b), (1, .int q), (2, .int 0), (3, .int 0)]) [2, 3, 1, 0] rfl ?_
  refine G.lv0 (lv2 := [(0, .ref b), (1, .int q), (2, .int (zSet z q 0)), (3, .int 0)]) (congrArg (fun q9 => ([(0, .ref b), (1, .int q), (2, .int q9), (3, .int 0)] : List (Nat × Value))) (show (0 : Int32) = zSet z q 0 from by rfl)) ?_
  refine G.lv0 (lv2 := [(0, .ref b), (1, .int q), (2, .int (zSet z q 0)), (3, .int (nI 0))]) (congrArg (fun q9 => ([(0, .ref b), (1, .int q), (2, .int (zSet z q 0)), (3, .int q9)] : List (Nat × Value))) (show (0 : Int32) = nI 0 from by rfl)) ?_
  exact L4_1 (N + 1) 0 (by omega) (by omega)
set_option maxHeartbeats 4000000 in
set_option maxRecDepth 100000 in
theorem c_X0_comeBack (l : Launch) (K : KT) (sz : Nat) (b : Nat) (z : Zt) (V : VW) (a : Int32) (t : Int32) (N : Nat) (hN : z 194 = nI N) (h16 : N ≤ 16) : Ct l K yX0_comeBack cX0_comeBack 5 (some .int) 3 [.ref b, .int a, .int t] (bw K b z V) sz (some (.int (if cNoBack z a t < 0 then cNoBack z a t else t * z (203 + 2)))) (bw K b (if cNoBack z a t < 0 then z else cDoBack z (a).toNatClampNeg t) V) sz 0 0 := by
  refine Ct.ofG (by decide) (Nat.le_of_ble_eq_true rfl) ?_
  intro p9 e9 s9 m9 a9 b9 t9 c9 cx hin9
  refine G.lv0 (lv2 := [(0, .ref b), (1, .int a), (2, .int t)]) rfl ?_
  by_cases hS : 0 ≤ a ∧ a ≤ z 194 - 1
  · skip
    obtain ⟨k, hk, rfl⟩ := sail_of hN h16 hS
    have tk : (nI k).toNatClampNeg = k := nI_clamp (by omega)
    refine G.aload_n (pc := 0) cx dX0_comeBack_0 rfl 0 rfl ?_
    refine G.iload_n (pc := 1) cx dX0_comeBack_1 rfl 1 rfl ?_
    refine G.callV0 (pc := 2) (rest := []) (st1 := [.ref (b + 2 + k)]) cx (c_X0_findSailor l K sz b z V N k (by assumption) (by omega) (by omega)) ok_X0_findSailor dX0_comeBack_2 wm_ml_X0_115 rfl bw_b rfl rfl (Nat.le_of_ble_eq_true rfl) ⟨Nat.le_of_ble_eq_true rfl, Nat.le_of_ble_eq_true rfl⟩ rfl ?_
    refine G.astore_n (pc := 5) cx dX0_comeBack_5 rfl (by decide) rfl ?_
    refine G.aload_n (pc := 6) cx dX0_comeBack_6 rfl 0 rfl ?_
    refine G.ifnull (pc := 7) cx dX0_comeBack_7 ?_
    refine G.iload_n (pc := 10) cx dX0_comeBack_10 rfl 3 rfl ?_
    refine G.iconst (pc := 11) cx dX0_comeBack_11 (v := 0) (by decide) ?_
    refine G.bipush (pc := 12) cx dX0_comeBack_12 (v := 99) (by decide) ?_
    refine G.callSN0 (pc := 14) (rest := []) (st1 := [.int (b2 (0 ≤ t ∧ t ≤ 99))]) cx (c_X9_within l K sz t 0 99 (bw K b z V)) ok_X9_within dX0_comeBack_14 (by decide +kernel)  rfl (Nat.le_of_ble_eq_true rfl) ⟨Nat.le_of_ble_eq_true rfl, Nat.le_of_ble_eq_true rfl⟩ rfl ?_
    refine G.if_neB (pc := 17) cx dX0_comeBack_17 (tgt := 23) (by decide) (fun cq17 => ?_) (fun cq17 => ?_)
    · skip
      refine G.iload_n (pc := 23) cx dX0_comeBack_23 rfl 3 rfl ?_
      refine G.aload_n (pc := 24) cx dX0_comeBack_24 rfl 1 rfl ?_
      refine G.iconst (pc := 25) cx dX0_comeBack_25 (v := 2) (by decide) ?_
      refine G.callV0 (pc := 26) (rest := [.int t]) (st1 := [.int (z (203 + 2)), .int t]) cx (c_X0_setting l K sz b z V 2 (by omega)) ok_X0_setting dX0_comeBack_26 wm_ml_X0_105 rfl bw_b rfl rfl (Nat.le_of_ble_eq_true rfl) ⟨Nat.le_of_ble_eq_true rfl, Nat.le_of_ble_eq_true rfl⟩ rfl ?_
      refine G.imul (pc := 29) cx dX0_comeBack_29 ?_
      refine G.istore (pc := 30) cx dX0_comeBack_30 (by decide) rfl ?_
      refine G.aload_n (pc := 32) cx dX0_comeBack_32 rfl 1 rfl ?_
      refine G.getS (pc := 33) cx dX0_comeBack_33 2 wm_fl_X0_136 (by decide) (by omega) rfl ?_
      refine G.iconst (pc := 36) cx dX0_comeBack_36 (v := 1) (by decide) ?_
      refine G.icmp_ne (pc := 37) cx dX0_comeBack_37 (tgt := 49) (by decide) (fun cq37 => ?_) (fun cq37 => ?_)
      · skip
        refine G.ldc (pc := 49) cx dX0_comeBack_49 (v := (-1000002)) wm_ct_X0_85 ?_
        refine G.iret (pc := 51) cx rfl dX0_comeBack_51 ?_ ?_ rfl
        · refine congrArg (fun x => some (Value.int x)) ?_
          (try clear hin9); (try clear cx); (try clear hN); first | (simp [cNoBack, cDoBack, *]; done) | (simp_all [cNoBack, cDoBack]; done)
        · refine congrArg (fun x => bw K b x V) ?_
          (try clear hin9); (try clear cx); (try clear hN); first | (simp [cNoBack, cDoBack, *]; done) | (simp_all [cNoBack, cDoBack]; done)
      · skip
        refine G.aload_n (pc := 40) cx dX0_comeBack_40 rfl 1 rfl ?_
        refine G.iload (pc := 41) cx dX0_comeBack_41 0 rfl ?_
        refine G.callV0 (pc := 43) (rest := []) (st1 := [.int (b2 (¬ cBal z k - (t * (z (203 + 2))) < -4000))]) cx (c_X6_couldBeFined l K sz b z V k (t * (z (203 + 2))) (by omega)) ok_X6_couldBeFined dX0_comeBack_43 wm_ml_X0_162 rfl (bw_s (by omega)) rfl rfl (Nat.le_of_ble_eq_true rfl) ⟨Nat.le_of_ble_eq_true rfl, Nat.le_of_ble_eq_true rfl⟩ rfl ?_
        refine G.if_neB (pc := 46) cx dX0_comeBack_46 (tgt := 52) (by decide) (fun cq46 => ?_) (fun cq46 => ?_)
        · skip
          refine G.aload_n (pc := 52) cx dX0_comeBack_52 rfl 1 rfl ?_
          refine G.iconst (pc := 53) cx dX0_comeBack_53 (v := 0) (by decide) ?_
          refine G.putS (pc := 54) cx dX0_comeBack_54 2 wm_fl_X0_136 (by decide) (by decide) (by omega) ?_
          refine G.aload_n (pc := 57) cx dX0_comeBack_57 rfl 2 rfl ?_
          refine G.iload_n (pc := 58) cx dX0_comeBack_58 rfl 3 rfl ?_
          refine G.aload_n (pc := 59) cx dX0_comeBack_59 rfl 1 rfl ?_
          refine G.iload (pc := 60) cx dX0_comeBack_60 0 rfl ?_
          refine G.callV0 (pc := 62) (rest := []) (st1 := []) cx (c_X0_chargeFine l K sz b (upd z (10 * k + 2) 0) V k (t * (z (203 + 2))) (by omega)) ok_X0_chargeFine dX0_comeBack_62 wm_ml_X0_166 rfl bw_b rfl rfl (Nat.le_of_ble_eq_true rfl) ⟨Nat.le_of_ble_eq_true rfl, Nat.le_of_ble_eq_true rfl⟩ rfl ?_
          refine G.iload (pc := 65) cx dX0_comeBack_65 0 rfl ?_
          refine G.iret (pc := 67) cx rfl dX0_comeBack_67 ?_ ?_ rfl
          · refine congrArg (fun x => some (Value.int x)) ?_
            (try clear hin9); (try clear cx); (try clear hN); first | (simp [cNoBack, cDoBack, *]; done) | (simp_all [cNoBack, cDoBack]; done)
          · refine congrArg (fun x => bw K b x V) ?_
            (try clear hin9); (try clear cx); (try clear hN); first | (simp [cNoBack, cDoBack, *]; done) | (simp_all [cNoBack, cDoBack]; done)
        · skip
          refine G.ldc (pc := 49) cx dX0_comeBack_49 (v := (-1000002)) wm_ct_X0_85 ?_
          refine G.iret (pc := 51) cx rfl dX0_comeBack_51 ?_ ?_ rfl
          · refine congrArg (fun x => some (Value.int x)) ?_
            (try clear hin9); (try clear cx); (try clear hN); first | (simp [cNoBack, cDoBack, *]; done) | (simp_all [cNoBack, cDoBack]; done)
          · refine congrArg (fun x => bw K b x V) ?_
            (try clear hin9); (try clear cx); (try clear hN); first | (simp [cNoBack, cDoBack, *]; done) | (simp_all [cNoBack, cDoBack]; done)
    · skip
      refine G.ldc (pc := 20) cx dX0_comeBack_20 (v := (-1000001)) wm_ct_X0_84 ?_
      refine G.iret (pc := 22) cx rfl dX0_comeBack_22 ?_ ?_ rfl
      · refine congrArg (fun x => some (Value.int x)) ?_
        (try clear hin9); (try clear cx); (try clear hN); first | (simp [cNoBack, cDoBack, *]; done) | (simp_all [cNoBack, cDoBack]; done)
      · refine congrArg (fun x => bw K b x V) ?_
        (try clear hin9); (try clear cx); (try clear hN); first | (simp [cNoBack, cDoBack, *]; done) | (simp_all [cNoBack, cDoBack]; done)
  · skip
    refine G.aload_n (pc := 0) cx dX0_comeBack_0 rfl 0 rfl ?_
    refine G.iload_n (pc := 1) cx dX0_comeBack_1 rfl 1 rfl ?_
    refine G.callV0 (pc := 2) (rest := []) (st1 := [.null]) cx (c_X0_findSailorN l K sz b z V N a (by assumption) (by omega) (by assumption)) ok_X0_findSailor dX0_comeBack_2 wm_ml_X0_115 rfl bw_b rfl rfl (Nat.le_of_ble_eq_true rfl) ⟨Nat.le_of_ble_eq_true rfl, Nat.le_of_ble_eq_true rfl⟩ rfl ?_
    refine G.astore_nN (pc := 5) cx dX0_comeBack_5 rfl (by decide) rfl ?_
    refine G.aload_nN (pc := 6) cx dX0_comeBack_6 rfl 0 rfl ?_
    refine G.ifnullN (pc := 7) cx dX0_comeBack_7 (tgt := 20) (by decide) ?_
    refine G.ldc (pc := 20) cx dX0_comeBack_20 (v := (-1000001)) wm_ct_X0_84 ?_
    refine G.iret (pc := 22) cx rfl dX0_comeBack_22 ?_ ?_ rfl
    · refine congrArg (fun x => some (Value.int x)) ?_
      (try clear hin9); (try clear cx); (try clear hN); first | (simp [cNoBack, cDoBack, *]; done) | (simp_all [cNoBack, cDoBack]; done)
    · refine congrArg (fun x => bw K b x V) ?_
      (try clear hin9); (try clear cx); (try clear hN); first | (simp [cNoBack, cDoBack, *]; done) | (simp_all [cNoBack, cDoBack]; done)
