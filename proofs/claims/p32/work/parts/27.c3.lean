theorem iinc_m1 (x : Int32) : x + Int32.ofInt (-1) = x - 1 := by rw [show Int32.ofInt (-1) = -1 from by decide, Int32.sub_eq_add_neg]
def cNoLv (z : Zt) (N : Nat) (w : Int32) : Int32 := if ¬ (0 ≤ w ∧ w ≤ 1) then -1000001 else if ¬ z 191 = 0 ∨ ¬ zSet z 1 N = 0 then -1000002 else if cLeaveN z w N = 0 then -1000002 else 0
theorem cLeave_0 (z : Zt) (w : Int32) : ∀ n, cLeaveN z w n = 0 → cLeaveTo z w n = z
  | 0, _ => rfl
  | n + 1, h => by
    simp only [cLeaveN] at h
    have h1 : cLeaveN z w n = 0 := by omega
    simp only [cLeaveTo]
    split
    · rename_i h2; rw [if_pos h2] at h; omega
    · exact cLeave_0 z w n h1
theorem cCan_s {z : Zt} {N k : Nat} {w p q : Int32} (hk : k < N) (h : ¬ ((z (10 * k + 1) = w ∧ ¬ z (10 * k + 2) = 2) ∧ cBal z k - cPart z w p q k < -4000)) : cCan z w p q (N - k) k = cCan z w p q (N - (k + 1)) (k + 1) := by
  rw [show N - k = N - (k + 1) + 1 by omega]; simp only [cCan]; rw [if_neg h]
theorem cCan_b {z : Zt} {N k : Nat} {w p q : Int32} (hk : k < N) (h : (z (10 * k + 1) = w ∧ ¬ z (10 * k + 2) = 2) ∧ cBal z k - cPart z w p q k < -4000) : cCan z w p q (N - k) k = false := by
  rw [show N - k = N - (k + 1) + 1 by omega]; simp only [cCan]; rw [if_pos h]
def cNoFW (z : Zt) (N : Nat) (w x : Int32) : Int32 := if ¬ (0 ≤ w ∧ w ≤ 1) ∨ ¬ (1 ≤ x ∧ x ≤ 999) then -1000001 else if zOfW z w N = 0 then -1000002 else if ¬ cCan z w (x / nI (zOfW z w N)) (x - x / nI (zOfW z w N) * nI (zOfW z w N)) N 0 = true then -1000002 else 0
def cFineW (z : Zt) (N : Nat) (w x : Int32) : Zt := cFineTo z w (x / nI (zOfW z w N)) (x - x / nI (zOfW z w N) * nI (zOfW z w N)) N
theorem cFind_s {z : Zt} {N k : Nat} {p : Int32} (hk : k < N) (h : ¬ (¬ z (10 * k + 2) = 2 ∧ nI (cAhead z k (cBal z k) N) = p)) : cFind z N p (N - k) k = cFind z N p (N - (k + 1)) (k + 1) := by
  rw [show N - k = N - (k + 1) + 1 by omega]; simp only [cFind]; rw [if_neg h]
theorem cFind_e {z : Zt} {N k : Nat} {p : Int32} (hk : k < N) (h : ¬ z (10 * k + 2) = 2 ∧ nI (cAhead z k (cBal z k) N) = p) : cFind z N p (N - k) k = nI k := by
  rw [show N - k = N - (k + 1) + 1 by omega]; simp only [cFind]; rw [if_pos h]
theorem cClrF_s {z : Zt} {k d : Nat} (hk : d ≤ 400) (h : cEarnA z k (nI d) (z 191) < -(z (10 * k + 8)) + zChg z k) : cClrF z k (401 - d) d = cClrF z k (401 - (d + 1)) (d + 1) := by
  rw [show 401 - d = 401 - (d + 1) + 1 by omega]; simp only [cClrF]; rw [if_pos h]
theorem cClrF_e {z : Zt} {k d : Nat} (hk : d ≤ 400) (h : ¬ cEarnA z k (nI d) (z 191) < -(z (10 * k + 8)) + zChg z k) : cClrF z k (401 - d) d = nI d := by
  rw [show 401 - d = 401 - (d + 1) + 1 by omega]; simp only [cClrF]; rw [if_neg h]
theorem lt_3 {i : Int32} (h0 : ¬ i < 0) (h : ¬ 3 ≤ i) : 0 ≤ i ∧ i ≤ 2 := by
  obtain ⟨j, hj, rfl⟩ := nI_of h0
  have h2 : j < 3 := Nat.not_le.mp (mt (nI_leI (by decide) hj).mpr h)
  exact ⟨nI_pos' hj, (nI_leI (a := j) (b := 2) hj (by decide)).mpr (by omega)⟩
def cNoSet (q v : Int32) : Int32 := if ¬ (0 ≤ q ∧ q ≤ 2) then -1000001 else if ¬ (0 ≤ v ∧ v ≤ hS q.toNatClampNeg) then -1000001 else 0
set_option maxHeartbeats 4000000 in
set_option maxRecDepth 100000 in
theorem c_X0_comeIntoPort (l : Launch) (K : KT) (sz : Nat) (b : Nat) (z : Zt) (V : VW)  : Ct l K yX0_comeIntoPort cX0_comeIntoPort 1 (some .int) 0 [.ref b] (bw K b z V) sz (some (.int (if cNoPort z < 0 then cNoPort z else z 193 + 1))) (bw K b (if cNoPort z < 0 then z else upd (upd z 191 0) 193 (z 193 + 1)) V) sz 0 0 := by
  refine Ct.ofG (by decide) (Nat.le_of_ble_eq_true rfl) ?_
  intro p9 e9 s9 m9 a9 b9 t9 c9 cx hin9
  refine G.lv0 (lv2 := [(0, .ref b)]) rfl ?_
  refine G.aload_n (pc := 0) cx dX0_comeIntoPort_0 rfl 0 rfl ?_
  refine G.getB (pc := 1) cx dX0_comeIntoPort_1 9 wm_fl_X0_76 (by decide) rfl ?_
  refine G.if_ne (pc := 4) cx dX0_comeIntoPort_4 (tgt := 10) (by decide) (fun cq4 => ?_) (fun cq4 => ?_)
  · skip
    refine G.aload_n (pc := 10) cx dX0_comeIntoPort_10 rfl 0 rfl ?_
    refine G.iconst (pc := 11) cx dX0_comeIntoPort_11 (v := 0) (by decide) ?_
    refine G.putBz (pc := 12) cx dX0_comeIntoPort_12 wm_fl_X0_76 rfl rfl ?_
    refine G.aload_n (pc := 15) cx dX0_comeIntoPort_15 rfl 0 rfl ?_
    refine G.dup (pc := 16) cx dX0_comeIntoPort_16 rfl ?_
    refine G.getB (pc := 17) cx dX0_comeIntoPort_17 8 wm_fl_X0_73 (by decide) (congrArg (fun x => some (Value.int x)) (upd_n (i := 191) (j := 193) z 0 (by omega))) ?_
    refine G.iconst (pc := 20) cx dX0_comeIntoPort_20 (v := 1) (by decide) ?_
    refine G.iadd (pc := 21) cx dX0_comeIntoPort_21 ?_
    refine G.putB8 (pc := 22) cx dX0_comeIntoPort_22 wm_fl_X0_73 ?_
    refine G.aload_n (pc := 25) cx dX0_comeIntoPort_25 rfl 0 rfl ?_
    refine G.getB (pc := 26) cx dX0_comeIntoPort_26 8 wm_fl_X0_73 (by decide) (congrArg (fun x => some (Value.int x)) (upd_s (upd z 191 0) 193 ((z 193) + 1))) ?_
    refine G.iret (pc := 29) cx rfl dX0_comeIntoPort_29 ?_ ?_ rfl
    · refine congrArg (fun x => some (Value.int x)) ?_
      (try clear hin9); (try clear cx); (try clear hN); first | (simp [cNoPort, *]; done) | (simp_all [cNoPort]; done)
    · refine congrArg (fun x => bw K b x V) ?_
      (try clear hin9); (try clear cx); (try clear hN); first | (simp [cNoPort, *]; done) | (simp_all [cNoPort]; done)
  · skip
    refine G.ldc (pc := 7) cx dX0_comeIntoPort_7 (v := (-1000002)) wm_ct_X0_85 ?_
    refine G.iret (pc := 9) cx rfl dX0_comeIntoPort_9 ?_ ?_ rfl
    · refine congrArg (fun x => some (Value.int x)) ?_
      (try clear hin9); (try clear cx); (try clear hN); first | (simp [cNoPort, *]; done) | (simp_all [cNoPort]; done)
    · refine congrArg (fun x => bw K b x V) ?_
      (try clear hin9); (try clear cx); (try clear hN); first | (simp [cNoPort, *]; done) | (simp_all [cNoPort]; done)
set_option maxHeartbeats 4000000 in
set_option maxRecDepth 100000 in
theorem c_X0_passDays (l : Launch) (K : KT) (sz : Nat) (b : Nat) (z : Zt) (V : VW) (m : Int32) (N : Nat) (hN : z 194 = nI N) (h16 : N ≤ 16) : Ct l K yX0_passDays cX0_passDays 3 (some .int) 1 [.ref b, .int m] (bw K b z V) sz (some (.int (if cNoDays z m < 0 then cNoDays z m else z 192 + m))) (bw K b (if cNoDays z m < 0 then z else upd (cDayTo z m N) 192 (z 192 + m)) V) sz 0 0 := by
  refine Ct.ofG (by decide) (Nat.le_of_ble_eq_true rfl) ?_
  intro p9 e9 s9 m9 a9 b9 t9 c9 cx hin9
  refine G.lv0 (lv2 := [(0, .ref b), (1, .int m)]) rfl ?_
  have hF : ∀ k, k ≤ N → cDayTo z m k 194 = nI N := fun k hk => (cDayTo_o z m k (fun q hq => by omega)).trans hN
  refine G.iload_n (pc := 0) cx dX0_passDays_0 rfl 1 rfl ?_
  refine G.iconst (pc := 1) cx dX0_passDays_1 (v := 1) (by decide) ?_
  refine G.bipush (pc := 2) cx dX0_passDays_2 (v := 99) (by decide) ?_
  refine G.callSN0 (pc := 4) (rest := []) (st1 := [.int (b2 (1 ≤ m ∧ m ≤ 99))]) cx (c_X9_within l K sz m 1 99 (bw K b z V)) ok_X9_within dX0_passDays_4 (by decide +kernel)  rfl (Nat.le_of_ble_eq_true rfl) ⟨Nat.le_of_ble_eq_true rfl, Nat.le_of_ble_eq_true rfl⟩ rfl ?_
  refine G.if_neB (pc := 7) cx dX0_passDays_7 (tgt := 13) (by decide) (fun cq7 => ?_) (fun cq7 => ?_)
  · skip
    refine G.aload_n (pc := 13) cx dX0_passDays_13 rfl 0 rfl ?_
    refine G.getB (pc := 14) cx dX0_passDays_14 7 wm_fl_X0_70 (by decide) rfl ?_
    refine G.iload_n (pc := 17) cx dX0_passDays_17 rfl 1 rfl ?_
    refine G.iadd (pc := 18) cx dX0_passDays_18 ?_
    refine G.sipush (pc := 19) cx dX0_passDays_19 (v := 999) (by decide) ?_
    refine G.icmp_le (pc := 22) cx dX0_passDays_22 (tgt := 28) (by decide) (fun cq22 => ?_) (fun cq22 => ?_)
    · skip
      have nq22 := Int32.not_lt.mpr cq22
      refine G.iconst (pc := 28) cx dX0_passDays_28 (v := 0) (by decide) ?_
      refine G.istore_n (pc := 29) cx dX0_passDays_29 rfl (by decide) rfl ?_
      have L30_1 : ∀ (f k30 : Nat), N - k30 < f → k30 ≤ N → G K p9 l e9 (rmL 1 0 0) s9 m9 a9 b9 t9 c9 (MQ b9 (QCt K (some (.int (if cNoDays z m < 0 then cNoDays z m else z 192 + m))) (bw K b (if cNoDays z m < 0 then z else upd (cDayTo z m N) 192 (z 192 + m)) V) sz) a9 s9 0 0 (kA K)) 3 (bw K b (cDayTo z m k30) V) sz 0 0 30 [(0, .ref b), (1, .int m), (2, .int (nI k30))] [] := by
        intro f
        induction f with
        | zero => intro k30 h9; omega
        | succ f ih30 =>
          intro k30 h930 h830
          refine G.iload_n (pc := 30) cx dX0_passDays_30 rfl 2 rfl ?_
          refine G.aload_n (pc := 31) cx dX0_passDays_31 rfl 0 rfl ?_
          refine G.getB (pc := 32) cx dX0_passDays_32 5 wm_fl_X0_63 (by decide) (congrArg (fun x => some (Value.int x)) (hF _ (by omega))) ?_
          refine G.icmp_geN (pc := 35) cx k30 N (by omega) (by omega) dX0_passDays_35 (tgt := 79) (by decide) (fun cq35 => ?_) (fun cq35 => ?_)
          · skip
            have nq35 := Nat.not_lt.mpr cq35
            have ex30 : k30 = N := by omega
            try rw [ex30]
            refine G.aload_n (pc := 79) cx dX0_passDays_79 rfl 0 rfl ?_
            refine G.dup (pc := 80) cx dX0_passDays_80 rfl ?_
            refine G.getB (pc := 81) cx dX0_passDays_81 7 wm_fl_X0_70 (by decide) (congrArg (fun x => some (Value.int x)) ((cDayTo_o z m _ (fun q hq => by omega)))) ?_
            refine G.iload_n (pc := 84) cx dX0_passDays_84 rfl 1 rfl ?_
            refine G.iadd (pc := 85) cx dX0_passDays_85 ?_
            refine G.putB7 (pc := 86) cx dX0_passDays_86 wm_fl_X0_70 ?_
            refine G.aload_n (pc := 89) cx dX0_passDays_89 rfl 0 rfl ?_
            refine G.getB (pc := 90) cx dX0_passDays_90 7 wm_fl_X0_70 (by decide) (congrArg (fun x => some (Value.int x)) (upd_s (cDayTo z m N) 192 ((z 192) + m))) ?_
            refine G.iret (pc := 93) cx rfl dX0_passDays_93 ?_ ?_ rfl
            · refine congrArg (fun x => some (Value.int x)) ?_
              (try clear L30_1); (try clear ih30); (try clear hin9); (try clear cx); (try clear hN); first | (simp [cNoDays, *]; done) | (simp_all [cNoDays]; done)
            · refine congrArg (fun x => bw K b x V) ?_
              (try clear L30_1); (try clear ih30); (try clear hin9); (try clear cx); (try clear hN); first | (simp [cNoDays, *]; done) | (simp_all [cNoDays]; done)
          · skip
            have nq35 := Nat.not_le.mpr cq35
            refine G.iload_n (pc := 38) cx dX0_passDays_38 rfl 2 rfl ?_
            refine G.aload_n (pc := 39) cx dX0_passDays_39 rfl 0 rfl ?_
            refine G.getB (pc := 40) cx dX0_passDays_40 0 wm_fl_X0_11 (by decide) rfl ?_
            refine G.alenV (pc := 43) cx dX0_passDays_43 1 rfl bw_crew (v := 16) rfl ?_
            refine G.icmp_geN (pc := 44) cx k30 16 (by omega) (by omega) dX0_passDays_44 (tgt := 79) (by decide) (fun cq44 => ?_) (fun cq44 => ?_)
            · skip
              exact absurd cq44 (by omega)
            · skip
              have nq44 := Nat.not_le.mpr cq44
              refine G.aload_n (pc := 47) cx dX0_passDays_47 rfl 0 rfl ?_
              refine G.getB (pc := 48) cx dX0_passDays_48 0 wm_fl_X0_11 (by decide) rfl ?_
              refine G.iload_n (pc := 51) cx dX0_passDays_51 rfl 2 rfl ?_
              refine G.aaldV (pc := 52) cx dX0_passDays_52 1 rfl bw_crew (j := k30) rfl (by omega) (by decide) rfl ?_
              refine G.callV0 (pc := 53) (rest := []) (st1 := [.int (b2 ((cDayTo z m k30) (10 * k30 + 2) = 2))]) cx (c_X6_isGone l K sz b (cDayTo z m k30) V k30 (by omega)) ok_X6_isGone dX0_passDays_53 wm_ml_X0_149 rfl (bw_s (by omega)) rfl rfl (Nat.le_of_ble_eq_true rfl) ⟨Nat.le_of_ble_eq_true rfl, Nat.le_of_ble_eq_true rfl⟩ rfl ?_
              refine G.if_neB (pc := 56) cx dX0_passDays_56 (tgt := 73) (by decide) (fun cq56 => ?_) (fun cq56 => ?_)
              · skip
                refine G.iinc (pc := 73) cx dX0_passDays_73 (v := nI (k30 + 1)) (k := 2) rfl (nI_add k30 1) (by decide) rfl ?_
                refine G.goto (pc := 76) cx dX0_passDays_76 (tgt := 30) (by decide) ?_
                refine G.cast (V' := (bw K b (cDayTo z m (k30 + 1)) V)) (congrArg (fun q9 => bw K b q9 V) (by first | (simp [cDayTo, *]; done) | (simp_all [cDayTo]; done))) ?_
                refine G.castL (lv' := [(0, .ref b), (1, .int m), (2, .int (nI (k30 + 1)))]) [1, 2, 0] rfl ?_
                exact ih30 (k30 + 1) (by omega) (by omega)
              · skip
                refine G.aload_n (pc := 59) cx dX0_passDays_59 rfl 0 rfl ?_
                refine G.getB (pc := 60) cx dX0_passDays_60 0 wm_fl_X0_11 (by decide) rfl ?_
                refine G.iload_n (pc := 63) cx dX0_passDays_63 rfl 2 rfl ?_
                refine G.aaldV (pc := 64) cx dX0_passDays_64 1 rfl bw_crew (j := k30) rfl (by omega) (by decide) rfl ?_
                refine G.iload_n (pc := 65) cx dX0_passDays_65 rfl 1 rfl ?_
                refine G.aload_n (pc := 66) cx dX0_passDays_66 rfl 0 rfl ?_
                refine G.getB (pc := 67) cx dX0_passDays_67 9 wm_fl_X0_76 (by decide) rfl ?_
                refine G.callV0 (pc := 70) (rest := []) (st1 := []) cx (c_X6_passDays l K sz b (cDayTo z m k30) V k30 m ((cDayTo z m k30) 191) (by omega)) ok_X6_passDays dX0_passDays_70 wm_ml_X0_192 rfl (bw_s (by omega)) rfl rfl (Nat.le_of_ble_eq_true rfl) ⟨Nat.le_of_ble_eq_true rfl, Nat.le_of_ble_eq_true rfl⟩ rfl ?_
                refine G.iinc (pc := 73) cx dX0_passDays_73 (v := nI (k30 + 1)) (k := 2) rfl (nI_add k30 1) (by decide) rfl ?_
                refine G.goto (pc := 76) cx dX0_passDays_76 (tgt := 30) (by decide) ?_
                refine G.cast (V' := (bw K b (cDayTo z m (k30 + 1)) V)) (congrArg (fun q9 => bw K b q9 V) (by first | (simp [cDayTo, *]; done) | (simp_all [cDayTo]; done))) ?_
                refine G.castL (lv' := [(0, .ref b), (1, .int m), (2, .int (nI (k30 + 1)))]) [1, 2, 0] rfl ?_
                exact ih30 (k30 + 1) (by omega) (by omega)
      refine G.cast (V' := (bw K b (cDayTo z m 0) V)) (congrArg (fun q9 => bw K b q9 V) (by rfl)) ?_
      refine G.castL (lv' := [(0, .ref b), (1, .int m), (2, .int 0)]) [1, 2, 0] rfl ?_
      refine G.lv0 (lv2 := [(0, .ref b), (1, .int m), (2, .int (nI 0))]) (congrArg (fun q9 => ([(0, .ref b), (1, .int m), (2, .int q9)] : List (Nat × Value))) (show (0 : Int32) = nI 0 from by rfl)) ?_
      exact L30_1 (N + 1) 0 (by omega) (by omega)
    · skip
      have nq22 := Int32.not_le.mp cq22
      refine G.ldc (pc := 25) cx dX0_passDays_25 (v := (-1000003)) wm_ct_X0_86 ?_
      refine G.iret (pc := 27) cx rfl dX0_passDays_27 ?_ ?_ rfl
      · refine congrArg (fun x => some (Value.int x)) ?_
        (try clear L30_1); (try clear ih30); (try clear hin9); (try clear cx); (try clear hN); first | (simp [cNoDays, *]; done) | (simp_all [cNoDays]; done)
      · refine congrArg (fun x => bw K b x V) ?_
        (try clear L30_1); (try clear ih30); (try clear hin9); (try clear cx); (try clear hN); first | (simp [cNoDays, *]; done) | (simp_all [cNoDays]; done)
  · skip
    refine G.ldc (pc := 10) cx dX0_passDays_10 (v := (-1000001)) wm_ct_X0_84 ?_
    refine G.iret (pc := 12) cx rfl dX0_passDays_12 ?_ ?_ rfl
    · refine congrArg (fun x => some (Value.int x)) ?_
      (try clear L30_1); (try clear ih30); (try clear hin9); (try clear cx); (try clear hN); first | (simp [cNoDays, *]; done) | (simp_all [cNoDays]; done)
    · refine congrArg (fun x => bw K b x V) ?_
      (try clear L30_1); (try clear ih30); (try clear hin9); (try clear cx); (try clear hN); first | (simp [cNoDays, *]; done) | (simp_all [cNoDays]; done)
set_option maxHeartbeats 4000000 in
set_option maxRecDepth 100000 in
theorem c_X0_payTo (l : Launch) (K : KT) (sz : Nat) (b : Nat) (z : Zt) (V : VW) (k : Nat) (x : Int32) (hk : k < 16) : Ct l K yX0_payTo cX0_payTo 4 none 2 [.ref b, .int (nI k), .ref (b + 2 + k), .int x] (bw K b z V) sz none (bw K b (cPay z k x) V) sz 0 0 := by
  refine Ct.ofG (by decide) (Nat.le_of_ble_eq_true rfl) ?_
  intro p9 e9 s9 m9 a9 b9 t9 c9 cx hin9
  refine G.lv0 (lv2 := [(0, .ref b), (1, .int (nI k)), (2, .ref (b + 2 + k)), (3, .int x)]) rfl ?_
  refine G.aload_n (pc := 0) cx dX0_payTo_0 rfl 2 rfl ?_
  refine G.dup (pc := 1) cx dX0_payTo_1 rfl ?_
  refine G.getS (pc := 2) cx dX0_payTo_2 9 wm_fl_X0_199 (by decide) (by omega) rfl ?_
  refine G.iload_n (pc := 5) cx dX0_payTo_5 rfl 3 rfl ?_
  refine G.iadd (pc := 6) cx dX0_payTo_6 ?_
  refine G.putS (pc := 7) cx dX0_payTo_7 9 wm_fl_X0_199 (by decide) (by decide) (by omega) ?_
  refine G.aload_n (pc := 10) cx dX0_payTo_10 rfl 0 rfl ?_
  refine G.getB (pc := 11) cx dX0_payTo_11 4 wm_fl_X0_46 (by decide) rfl ?_
  refine G.dup (pc := 14) cx dX0_payTo_14 rfl ?_
  refine G.getT (pc := 15) cx dX0_payTo_15 4 wm_fl_X0_202 (by decide) (congrArg (fun x => some (Value.int x)) (upd_n (i := 10 * k + 9) (j := 199) z ((z (10 * k + 9)) + x) (by omega))) ?_
  refine G.iload_n (pc := 18) cx dX0_payTo_18 rfl 3 rfl ?_
  refine G.iadd (pc := 19) cx dX0_payTo_19 ?_
  refine G.putT (pc := 20) cx dX0_payTo_20 4 wm_fl_X0_202 (by decide) ?_
  refine G.aload_n (pc := 23) cx dX0_payTo_23 rfl 0 rfl ?_
  refine G.getB (pc := 24) cx dX0_payTo_24 4 wm_fl_X0_46 (by decide) rfl ?_
  refine G.iload_n (pc := 27) cx dX0_payTo_27 rfl 3 rfl ?_
  refine G.callV0 (pc := 28) (rest := []) (st1 := []) cx (c_X8_takeCash l K sz b (upd (upd z (10 * k + 9) ((z (10 * k + 9)) + x)) (195 + 4) ((z 199) + x)) V x) ok_X8_takeCash dX0_payTo_28 wm_ml_X0_101 rfl bw_t rfl rfl (Nat.le_of_ble_eq_true rfl) ⟨Nat.le_of_ble_eq_true rfl, Nat.le_of_ble_eq_true rfl⟩ rfl ?_
  refine G.aload_n (pc := 31) cx dX0_payTo_31 rfl 0 rfl ?_
  refine G.getB (pc := 32) cx dX0_payTo_32 3 wm_fl_X0_39 (by decide) rfl ?_
  refine G.iload_n (pc := 35) cx dX0_payTo_35 rfl 1 rfl ?_
  refine G.iconst (pc := 36) cx dX0_payTo_36 (v := 3) (by decide) ?_
  refine G.iload_n (pc := 37) cx dX0_payTo_37 rfl 3 rfl ?_
  refine G.callV0 (pc := 38) (rest := []) (st1 := []) cx (c_X1_enter l K sz b (cTake (upd (upd z (10 * k + 9) ((z (10 * k + 9)) + x)) (195 + 4) ((z 199) + x)) x) V (nI k) 3 x) ok_X1_enter dX0_payTo_38 wm_ml_X0_132 rfl bw_e rfl rfl (Nat.le_of_ble_eq_true rfl) ⟨Nat.le_of_ble_eq_true rfl, Nat.le_of_ble_eq_true rfl⟩ rfl ?_
  refine G.vret (pc := 41) cx rfl dX0_payTo_41 rfl ?_ rfl
  · refine congrArg (fun x => bw K b x V) ?_
    (try clear hin9); (try clear cx); rfl
set_option maxHeartbeats 4000000 in
set_option maxRecDepth 100000 in
theorem c_X0_sendAway (l : Launch) (K : KT) (sz : Nat) (b : Nat) (z : Zt) (V : VW) (a : Int32) (N : Nat) (hN : z 194 = nI N) (h16 : N ≤ 16) : Ct l K yX0_sendAway cX0_sendAway 4 (some .int) 3 [.ref b, .int a] (bw K b z V) sz (some (.int (if cNoDis z a < 0 then cNoDis z a else cBal z (a).toNatClampNeg))) (bw K b (if cNoDis z a < 0 then z else cDoDis z (a).toNatClampNeg) V) sz 0 0 := by
  refine Ct.ofG (by decide) (Nat.le_of_ble_eq_true rfl) ?_
  intro p9 e9 s9 m9 a9 b9 t9 c9 cx hin9
  refine G.lv0 (lv2 := [(0, .ref b), (1, .int a)]) rfl ?_
  by_cases hS : 0 ≤ a ∧ a ≤ z 194 - 1
  · skip
    obtain ⟨k, hk, rfl⟩ := sail_of hN h16 hS
    have tk : (nI k).toNatClampNeg = k := nI_clamp (by omega)
    refine G.aload_n (pc := 0) cx dX0_sendAway_0 rfl 0 rfl ?_
    refine G.iload_n (pc := 1) cx dX0_sendAway_1 rfl 1 rfl ?_
    refine G.callV0 (pc := 2) (rest := []) (st1 := [.ref (b + 2 + k)]) cx (c_X0_findSailor l K sz b z V N k (by assumption) (by omega) (by omega)) ok_X0_findSailor dX0_sendAway_2 wm_ml_X0_115 rfl bw_b rfl rfl (Nat.le_of_ble_eq_true rfl) ⟨Nat.le_of_ble_eq_true rfl, Nat.le_of_ble_eq_true rfl⟩ rfl ?_
    refine G.astore_n (pc := 5) cx dX0_sendAway_5 rfl (by decide) rfl ?_
    refine G.aload_n (pc := 6) cx dX0_sendAway_6 rfl 0 rfl ?_
    refine G.ifnonnull (pc := 7) cx dX0_sendAway_7 (tgt := 13) (by decide) ?_
    refine G.aload_n (pc := 13) cx dX0_sendAway_13 rfl 0 rfl ?_
    refine G.callV0 (pc := 14) (rest := []) (st1 := [.int (cBal z k)]) cx (c_X6_balance l K sz b z V k (by omega)) ok_X6_balance dX0_sendAway_14 wm_ml_X0_139 rfl (bw_s (by omega)) rfl rfl (Nat.le_of_ble_eq_true rfl) ⟨Nat.le_of_ble_eq_true rfl, Nat.le_of_ble_eq_true rfl⟩ rfl ?_
    refine G.istore_n (pc := 17) cx dX0_sendAway_17 rfl (by decide) rfl ?_
    refine G.aload_n (pc := 18) cx dX0_sendAway_18 rfl 2 rfl ?_
    refine G.getB (pc := 19) cx dX0_sendAway_19 9 wm_fl_X0_76 (by decide) rfl ?_
    refine G.if_ne (pc := 22) cx dX0_sendAway_22 (tgt := 36) (by decide) (fun cq22 => ?_) (fun cq22 => ?_)
    · skip
      refine G.ldc (pc := 36) cx dX0_sendAway_36 (v := (-1000002)) wm_ct_X0_85 ?_
      refine G.iret (pc := 38) cx rfl dX0_sendAway_38 ?_ ?_ rfl
      · refine congrArg (fun x => some (Value.int x)) ?_
        (try clear hin9); (try clear cx); (try clear hN); first | (simp [cNoDis, cDoDis, *]; done) | (simp_all [cNoDis, cDoDis]; done)
      · refine congrArg (fun x => bw K b x V) ?_
        (try clear hin9); (try clear cx); (try clear hN); first | (simp [cNoDis, cDoDis, *]; done) | (simp_all [cNoDis, cDoDis]; done)
    · skip
      refine G.aload_n (pc := 25) cx dX0_sendAway_25 rfl 1 rfl ?_
      refine G.callV0 (pc := 26) (rest := []) (st1 := [.int (b2 (z (10 * k + 2) = 2))]) cx (c_X6_isGone l K sz b z V k (by omega)) ok_X6_isGone dX0_sendAway_26 wm_ml_X0_149 rfl (bw_s (by omega)) rfl rfl (Nat.le_of_ble_eq_true rfl) ⟨Nat.le_of_ble_eq_true rfl, Nat.le_of_ble_eq_true rfl⟩ rfl ?_
      refine G.if_neB (pc := 29) cx dX0_sendAway_29 (tgt := 36) (by decide) (fun cq29 => ?_) (fun cq29 => ?_)
      · skip
        refine G.ldc (pc := 36) cx dX0_sendAway_36 (v := (-1000002)) wm_ct_X0_85 ?_
        refine G.iret (pc := 38) cx rfl dX0_sendAway_38 ?_ ?_ rfl
        · refine congrArg (fun x => some (Value.int x)) ?_
          (try clear hin9); (try clear cx); (try clear hN); first | (simp [cNoDis, cDoDis, *]; done) | (simp_all [cNoDis, cDoDis]; done)
        · refine congrArg (fun x => bw K b x V) ?_
          (try clear hin9); (try clear cx); (try clear hN); first | (simp [cNoDis, cDoDis, *]; done) | (simp_all [cNoDis, cDoDis]; done)
      · skip
        refine G.iload_n (pc := 32) cx dX0_sendAway_32 rfl 0 rfl ?_
        refine G.if_ge (pc := 33) cx dX0_sendAway_33 (tgt := 39) (by decide) (fun cq33 => ?_) (fun cq33 => ?_)
        · skip
          have nq33 := Int32.not_lt.mpr cq33
          refine G.aload_n (pc := 39) cx dX0_sendAway_39 rfl 2 rfl ?_
          refine G.iload_n (pc := 40) cx dX0_sendAway_40 rfl 3 rfl ?_
          refine G.aload_n (pc := 41) cx dX0_sendAway_41 rfl 1 rfl ?_
          refine G.iload_n (pc := 42) cx dX0_sendAway_42 rfl 0 rfl ?_
          refine G.callV0 (pc := 43) (rest := []) (st1 := []) cx (c_X0_payTo l K sz b z V k (cBal z k) (by omega)) ok_X0_payTo dX0_sendAway_43 wm_ml_X0_196 rfl bw_b rfl rfl (Nat.le_of_ble_eq_true rfl) ⟨Nat.le_of_ble_eq_true rfl, Nat.le_of_ble_eq_true rfl⟩ rfl ?_
          refine G.aload_n (pc := 46) cx dX0_sendAway_46 rfl 1 rfl ?_
          refine G.callV0 (pc := 47) (rest := []) (st1 := []) cx (c_X6_goAway l K sz b (cPay z k (cBal z k)) V k (by omega)) ok_X6_goAway dX0_sendAway_47 wm_ml_X0_189 rfl (bw_s (by omega)) rfl rfl (Nat.le_of_ble_eq_true rfl) ⟨Nat.le_of_ble_eq_true rfl, Nat.le_of_ble_eq_true rfl⟩ rfl ?_
          refine G.iload_n (pc := 50) cx dX0_sendAway_50 rfl 0 rfl ?_
          refine G.iret (pc := 51) cx rfl dX0_sendAway_51 ?_ ?_ rfl
          · refine congrArg (fun x => some (Value.int x)) ?_
            (try clear hin9); (try clear cx); (try clear hN); first | (simp [cNoDis, cDoDis, *]; done) | (simp_all [cNoDis, cDoDis]; done)
          · refine congrArg (fun x => bw K b x V) ?_
            (try clear hin9); (try clear cx); (try clear hN); first | (simp [cNoDis, cDoDis, *]; done) | (simp_all [cNoDis, cDoDis]; done)
        · skip
          have nq33 := Int32.not_le.mp cq33
          refine G.ldc (pc := 36) cx dX0_sendAway_36 (v := (-1000002)) wm_ct_X0_85 ?_
          refine G.iret (pc := 38) cx rfl dX0_sendAway_38 ?_ ?_ rfl
          · refine congrArg (fun x => some (Value.int x)) ?_
            (try clear hin9); (try clear cx); (try clear hN); first | (simp [cNoDis, cDoDis, *]; done) | (simp_all [cNoDis, cDoDis]; done)
          · refine congrArg (fun x => bw K b x V) ?_
            (try clear hin9); (try clear cx); (try clear hN); first | (simp [cNoDis, cDoDis, *]; done) | (simp_all [cNoDis, cDoDis]; done)
  · skip
    refine G.aload_n (pc := 0) cx dX0_sendAway_0 rfl 0 rfl ?_
    refine G.iload_n (pc := 1) cx dX0_sendAway_1 rfl 1 rfl ?_
    refine G.callV0 (pc := 2) (rest := []) (st1 := [.null]) cx (c_X0_findSailorN l K sz b z V N a (by assumption) (by omega) (by assumption)) ok_X0_findSailor dX0_sendAway_2 wm_ml_X0_115 rfl bw_b rfl rfl (Nat.le_of_ble_eq_true rfl) ⟨Nat.le_of_ble_eq_true rfl, Nat.le_of_ble_eq_true rfl⟩ rfl ?_
    refine G.astore_nN (pc := 5) cx dX0_sendAway_5 rfl (by decide) rfl ?_
    refine G.aload_nN (pc := 6) cx dX0_sendAway_6 rfl 0 rfl ?_
    refine G.ifnonnullN (pc := 7) cx dX0_sendAway_7 ?_
    refine G.ldc (pc := 10) cx dX0_sendAway_10 (v := (-1000001)) wm_ct_X0_84 ?_
    refine G.iret (pc := 12) cx rfl dX0_sendAway_12 ?_ ?_ rfl
    · refine congrArg (fun x => some (Value.int x)) ?_
      (try clear hin9); (try clear cx); (try clear hN); first | (simp [cNoDis, cDoDis, *]; done) | (simp_all [cNoDis, cDoDis]; done)
    · refine congrArg (fun x => bw K b x V) ?_
      (try clear hin9); (try clear cx); (try clear hN); first | (simp [cNoDis, cDoDis, *]; done) | (simp_all [cNoDis, cDoDis]; done)
set_option maxHeartbeats 4000000 in
set_option maxRecDepth 100000 in
theorem c_X0_putToSea (l : Launch) (K : KT) (sz : Nat) (b : Nat) (z : Zt) (V : VW) (N : Nat) (hN : z 194 = nI N) (h16 : N ≤ 16) : Ct l K yX0_putToSea cX0_putToSea 3 (some .int) 2 [.ref b] (bw K b z V) sz (some (.int (if cNoSail z < 0 then cNoSail z else nI (cLeft z N)))) (bw K b (if cNoSail z < 0 then z else upd (cSailTo z N) 191 1) V) sz 0 0 := by
  refine Ct.ofG (by decide) (Nat.le_of_ble_eq_true rfl) ?_
  intro p9 e9 s9 m9 a9 b9 t9 c9 cx hin9
  refine G.lv0 (lv2 := [(0, .ref b)]) rfl ?_
  have hF : ∀ k, k ≤ N → cSailTo z k 194 = nI N := fun k hk => (cSailTo_o z (by omega) k (fun q hq => by omega)).trans hN
  have hB := cLeft_le z N
  refine G.aload_n (pc := 0) cx dX0_putToSea_0 rfl 0 rfl ?_
  refine G.getB (pc := 1) cx dX0_putToSea_1 9 wm_fl_X0_76 (by decide) rfl ?_
  refine G.if_eq (pc := 4) cx dX0_putToSea_4 (tgt := 10) (by decide) (fun cq4 => ?_) (fun cq4 => ?_)
  · skip
    refine G.iconst (pc := 10) cx dX0_putToSea_10 (v := 0) (by decide) ?_
    refine G.istore_n (pc := 11) cx dX0_putToSea_11 rfl (by decide) rfl ?_
    refine G.iconst (pc := 12) cx dX0_putToSea_12 (v := 0) (by decide) ?_
    refine G.istore_n (pc := 13) cx dX0_putToSea_13 rfl (by decide) rfl ?_
    have L14_1 : ∀ (f k14 : Nat), N - k14 < f → k14 ≤ N → G K p9 l e9 (rmL 2 0 0) s9 m9 a9 b9 t9 c9 (MQ b9 (QCt K (some (.int (if cNoSail z < 0 then cNoSail z else nI (cLeft z N)))) (bw K b (if cNoSail z < 0 then z else upd (cSailTo z N) 191 1) V) sz) a9 s9 0 0 (kA K)) 3 (bw K b (cSailTo z k14) V) sz 0 0 14 [(0, .ref b), (1, .int (nI (cLeft z k14))), (2, .int (nI k14))] [] := by
      intro f
      induction f with
      | zero => intro k14 h9; omega
      | succ f ih14 =>
        intro k14 h914 h814
        refine G.iload_n (pc := 14) cx dX0_putToSea_14 rfl 2 rfl ?_
        refine G.aload_n (pc := 15) cx dX0_putToSea_15 rfl 0 rfl ?_
        refine G.getB (pc := 16) cx dX0_putToSea_16 5 wm_fl_X0_63 (by decide) (congrArg (fun x => some (Value.int x)) (hF _ (by omega))) ?_
        refine G.icmp_geN (pc := 19) cx k14 N (by omega) (by omega) dX0_putToSea_19 (tgt := 83) (by decide) (fun cq19 => ?_) (fun cq19 => ?_)
        · skip
          have nq19 := Nat.not_lt.mpr cq19
          have ex14 : k14 = N := by omega
          try rw [ex14]
          refine G.aload_n (pc := 83) cx dX0_putToSea_83 rfl 0 rfl ?_
          refine G.iconst (pc := 84) cx dX0_putToSea_84 (v := 1) (by decide) ?_
          refine G.putBz (pc := 85) cx dX0_putToSea_85 wm_fl_X0_76 rfl rfl ?_
          refine G.iload_n (pc := 88) cx dX0_putToSea_88 rfl 1 rfl ?_
          refine G.iret (pc := 89) cx rfl dX0_putToSea_89 ?_ ?_ rfl
          · refine congrArg (fun x => some (Value.int x)) ?_
            (try clear L14_1); (try clear ih14); (try clear hin9); (try clear cx); (try clear hN); first | (simp [cNoSail, *]; done) | (simp_all [cNoSail]; done)
          · refine congrArg (fun x => bw K b x V) ?_
            (try clear L14_1); (try clear ih14); (try clear hin9); (try clear cx); (try clear hN); first | (simp [cNoSail, *]; done) | (simp_all [cNoSail]; done)
        · skip
          have nq19 := Nat.not_le.mpr cq19
          refine G.iload_n (pc := 22) cx dX0_putToSea_22 rfl 2 rfl ?_
          refine G.aload_n (pc := 23) cx dX0_putToSea_23 rfl 0 rfl ?_
          refine G.getB (pc := 24) cx dX0_putToSea_24 0 wm_fl_X0_11 (by decide) rfl ?_
          refine G.alenV (pc := 27) cx dX0_putToSea_27 1 rfl bw_crew (v := 16) rfl ?_
          refine G.icmp_geN (pc := 28) cx k14 16 (by omega) (by omega) dX0_putToSea_28 (tgt := 83) (by decide) (fun cq28 => ?_) (fun cq28 => ?_)
          · skip
            exact absurd cq28 (by omega)
          · skip
            have nq28 := Nat.not_le.mpr cq28
            refine G.aload_n (pc := 31) cx dX0_putToSea_31 rfl 0 rfl ?_
            refine G.getB (pc := 32) cx dX0_putToSea_32 0 wm_fl_X0_11 (by decide) rfl ?_
            refine G.iload_n (pc := 35) cx dX0_putToSea_35 rfl 2 rfl ?_
            refine G.aaldV (pc := 36) cx dX0_putToSea_36 1 rfl bw_crew (j := k14) rfl (by omega) (by decide) rfl ?_
            refine G.getS (pc := 37) cx dX0_putToSea_37 2 wm_fl_X0_136 (by decide) (by omega) rfl ?_
            refine G.iconst (pc := 40) cx dX0_putToSea_40 (v := 1) (by decide) ?_
            refine G.icmp_ne (pc := 41) cx dX0_putToSea_41 (tgt := 77) (by decide) (fun cq41 => ?_) (fun cq41 => ?_)
            · skip
              refine G.iinc (pc := 77) cx dX0_putToSea_77 (v := nI (k14 + 1)) (k := 2) rfl (nI_add k14 1) (by decide) rfl ?_
              refine G.goto (pc := 80) cx dX0_putToSea_80 (tgt := 14) (by decide) ?_
              refine G.cast (V' := (bw K b (cSailTo z (k14 + 1)) V)) (congrArg (fun q9 => bw K b q9 V) (by first | (simp [cSailTo, *]; done) | (simp [cLeft, *]; done) | (simp [cLeft, *, nI_1]; done))) ?_
              refine G.castL (lv' := [(0, .ref b), (1, .int (nI (cLeft z k14))), (2, .int (nI (k14 + 1)))]) [1, 2, 0] rfl ?_
              refine G.lv0 (lv2 := [(0, .ref b), (1, .int (nI (cLeft z (k14 + 1)))), (2, .int (nI (k14 + 1)))]) (congrArg (fun q9 => ([(0, .ref b), (1, .int q9), (2, .int (nI (k14 + 1)))] : List (Nat × Value))) (show (nI (cLeft z k14) : Int32) = nI (cLeft z (k14 + 1)) from by first | (simp [cSailTo, *]; done) | (simp [cLeft, *]; done) | (simp [cLeft, *, nI_1]; done))) ?_
              exact ih14 (k14 + 1) (by omega) (by omega)
            · skip
              refine G.aload_n (pc := 44) cx dX0_putToSea_44 rfl 0 rfl ?_
              refine G.getB (pc := 45) cx dX0_putToSea_45 4 wm_fl_X0_46 (by decide) rfl ?_
              refine G.dup (pc := 48) cx dX0_putToSea_48 rfl ?_
              refine G.getT (pc := 49) cx dX0_putToSea_49 7 wm_fl_X0_186 (by decide) rfl ?_
              refine G.aload_n (pc := 52) cx dX0_putToSea_52 rfl 0 rfl ?_
              refine G.getB (pc := 53) cx dX0_putToSea_53 0 wm_fl_X0_11 (by decide) rfl ?_
              refine G.iload_n (pc := 56) cx dX0_putToSea_56 rfl 2 rfl ?_
              refine G.aaldV (pc := 57) cx dX0_putToSea_57 1 rfl bw_crew (j := k14) rfl (by omega) (by decide) rfl ?_
              refine G.callV0 (pc := 58) (rest := [.int ((cSailTo z k14) 202), .ref (b + 30)]) (st1 := [.int (cBal (cSailTo z k14) k14), .int ((cSailTo z k14) 202), .ref (b + 30)]) cx (c_X6_balance l K sz b (cSailTo z k14) V k14 (by omega)) ok_X6_balance dX0_putToSea_58 wm_ml_X0_139 rfl (bw_s (by omega)) rfl rfl (Nat.le_of_ble_eq_true rfl) ⟨Nat.le_of_ble_eq_true rfl, Nat.le_of_ble_eq_true rfl⟩ rfl ?_
              refine G.iadd (pc := 61) cx dX0_putToSea_61 ?_
              refine G.putT (pc := 62) cx dX0_putToSea_62 7 wm_fl_X0_186 (by decide) ?_
              refine G.aload_n (pc := 65) cx dX0_putToSea_65 rfl 0 rfl ?_
              refine G.getB (pc := 66) cx dX0_putToSea_66 0 wm_fl_X0_11 (by decide) rfl ?_
              refine G.iload_n (pc := 69) cx dX0_putToSea_69 rfl 2 rfl ?_
              refine G.aaldV (pc := 70) cx dX0_putToSea_70 1 rfl bw_crew (j := k14) rfl (by omega) (by decide) rfl ?_
              refine G.callV0 (pc := 71) (rest := []) (st1 := []) cx (c_X6_goAway l K sz b (upd (cSailTo z k14) (195 + 7) (((cSailTo z k14) 202) + (cBal (cSailTo z k14) k14))) V k14 (by omega)) ok_X6_goAway dX0_putToSea_71 wm_ml_X0_189 rfl (bw_s (by omega)) rfl rfl (Nat.le_of_ble_eq_true rfl) ⟨Nat.le_of_ble_eq_true rfl, Nat.le_of_ble_eq_true rfl⟩ rfl ?_
              refine G.iinc (pc := 74) cx dX0_putToSea_74 (v := nI (cLeft z k14 + 1)) (k := 1) rfl (nI_add (cLeft z k14) 1) (by decide) rfl ?_
              refine G.iinc (pc := 77) cx dX0_putToSea_77 (v := nI (k14 + 1)) (k := 2) rfl (nI_add k14 1) (by decide) rfl ?_
              refine G.goto (pc := 80) cx dX0_putToSea_80 (tgt := 14) (by decide) ?_
              refine G.cast (V' := (bw K b (cSailTo z (k14 + 1)) V)) (congrArg (fun q9 => bw K b q9 V) (by first | (simp [cSailTo, *]; done) | (simp [cLeft, *]; done) | (simp [cLeft, *, nI_1]; done))) ?_
              refine G.castL (lv' := [(0, .ref b), (1, .int (nI (cLeft z k14 + 1))), (2, .int (nI (k14 + 1)))]) [2, 1, 0] rfl ?_
              refine G.lv0 (lv2 := [(0, .ref b), (1, .int (nI (cLeft z (k14 + 1)))), (2, .int (nI (k14 + 1)))]) (congrArg (fun q9 => ([(0, .ref b), (1, .int q9), (2, .int (nI (k14 + 1)))] : List (Nat × Value))) (show (nI (cLeft z k14 + 1) : Int32) = nI (cLeft z (k14 + 1)) from by first | (simp [cSailTo, *]; done) | (simp [cLeft, *]; done) | (simp [cLeft, *, nI_1]; done))) ?_
              exact ih14 (k14 + 1) (by omega) (by omega)
    refine G.cast (V' := (bw K b (cSailTo z 0) V)) (congrArg (fun q9 => bw K b q9 V) (by rfl)) ?_
    refine G.castL (lv' := [(0, .ref b), (1, .int 0), (2, .int 0)]) [2, 1, 0] rfl ?_
    refine G.lv0 (lv2 := [(0, .ref b), (1, .int (nI (cLeft z 0))), (2, .int 0)]) (congrArg (fun q9 => ([(0, .ref b), (1, .int q9), (2, .int 0)] : List (Nat × Value))) (show (0 : Int32) = nI (cLeft z 0) from by rfl)) ?_
    refine G.lv0 (lv2 := [(0, .ref b), (1, .int (nI (cLeft z 0))), (2, .int (nI 0))]) (congrArg (fun q9 => ([(0, .ref b), (1, .int (nI (cLeft z 0))), (2, .int q9)] : List (Nat × Value))) (show (0 : Int32) = nI 0 from by rfl)) ?_
    exact L14_1 (N + 1) 0 (by omega) (by omega)
  · skip
    refine G.ldc (pc := 7) cx dX0_putToSea_7 (v := (-1000002)) wm_ct_X0_85 ?_
    refine G.iret (pc := 9) cx rfl dX0_putToSea_9 ?_ ?_ rfl
    · refine congrArg (fun x => some (Value.int x)) ?_
      (try clear L14_1); (try clear ih14); (try clear hin9); (try clear cx); (try clear hN); first | (simp [cNoSail, *]; done) | (simp_all [cNoSail]; done)
    · refine congrArg (fun x => bw K b x V) ?_
      (try clear L14_1); (try clear ih14); (try clear hin9); (try clear cx); (try clear hN); first | (simp [cNoSail, *]; done) | (simp_all [cNoSail]; done)
set_option maxHeartbeats 4000000 in
set_option maxRecDepth 100000 in
theorem c_X0_letAshore (l : Launch) (K : KT) (sz : Nat) (b : Nat) (z : Zt) (V : VW) (w : Int32) (N : Nat) (hN : z 194 = nI N) (h16 : N ≤ 16) : Ct l K yX0_letAshore cX0_letAshore 4 (some .int) 2 [.ref b, .int w] (bw K b z V) sz (some (.int (if cNoLv z N w < 0 then cNoLv z N w else nI (cLeaveN z w N)))) (bw K b (if cNoLv z N w < 0 then z else cLeaveTo z w N) V) sz 0 0 := by
  refine Ct.ofG (by decide) (Nat.le_of_ble_eq_true rfl) ?_
  intro p9 e9 s9 m9 a9 b9 t9 c9 cx hin9
  refine G.lv0 (lv2 := [(0, .ref b), (1, .int w)]) rfl ?_
  have hF : ∀ k, k ≤ N → cLeaveTo z w k 194 = nI N := fun k hk => (cLeaveTo_o z w k (fun q hq => by omega)).trans hN
  have hB := cLeaveN_le z w N
  have h0 := cLeave_0 z w N
  refine G.iload_n (pc := 0) cx dX0_letAshore_0 rfl 1 rfl ?_
  refine G.iconst (pc := 1) cx dX0_letAshore_1 (v := 0) (by decide) ?_
  refine G.iconst (pc := 2) cx dX0_letAshore_2 (v := 1) (by decide) ?_
  refine G.callSN0 (pc := 3) (rest := []) (st1 := [.int (b2 (0 ≤ w ∧ w ≤ 1))]) cx (c_X9_within l K sz w 0 1 (bw K b z V)) ok_X9_within dX0_letAshore_3 (by decide +kernel)  rfl (Nat.le_of_ble_eq_true rfl) ⟨Nat.le_of_ble_eq_true rfl, Nat.le_of_ble_eq_true rfl⟩ rfl ?_
  refine G.if_neB (pc := 6) cx dX0_letAshore_6 (tgt := 12) (by decide) (fun cq6 => ?_) (fun cq6 => ?_)
  · skip
    refine G.aload_n (pc := 12) cx dX0_letAshore_12 rfl 0 rfl ?_
    refine G.getB (pc := 13) cx dX0_letAshore_13 9 wm_fl_X0_76 (by decide) rfl ?_
    refine G.if_ne (pc := 16) cx dX0_letAshore_16 (tgt := 27) (by decide) (fun cq16 => ?_) (fun cq16 => ?_)
    · skip
      refine G.ldc (pc := 27) cx dX0_letAshore_27 (v := (-1000002)) wm_ct_X0_85 ?_
      refine G.iret (pc := 29) cx rfl dX0_letAshore_29 ?_ ?_ rfl
      · refine congrArg (fun x => some (Value.int x)) ?_
        (try clear hin9); (try clear cx); (try clear hN); first | (simp [cNoLv, *]; done) | (simp_all [cNoLv]; done)
      · refine congrArg (fun x => bw K b x V) ?_
        (try clear hin9); (try clear cx); (try clear hN); first | (simp [cNoLv, *]; done) | (simp_all [cNoLv]; done)
    · skip
      refine G.aload_n (pc := 19) cx dX0_letAshore_19 rfl 0 rfl ?_
      refine G.iconst (pc := 20) cx dX0_letAshore_20 (v := 1) (by decide) ?_
      refine G.callV0 (pc := 21) (rest := []) (st1 := [.int (zSet z 1 N)]) cx (c_X0_setOf l K sz b z V 1 N (by assumption) (by omega)) ok_X0_setOf dX0_letAshore_21 wm_ml_X0_183 rfl bw_b rfl rfl (Nat.le_of_ble_eq_true rfl) ⟨Nat.le_of_ble_eq_true rfl, Nat.le_of_ble_eq_true rfl⟩ rfl ?_
      refine G.if_eq (pc := 24) cx dX0_letAshore_24 (tgt := 30) (by decide) (fun cq24 => ?_) (fun cq24 => ?_)
      · skip
        refine G.iconst (pc := 30) cx dX0_letAshore_30 (v := 0) (by decide) ?_
        refine G.istore_n (pc := 31) cx dX0_letAshore_31 rfl (by decide) rfl ?_
        refine G.iconst (pc := 32) cx dX0_letAshore_32 (v := 0) (by decide) ?_
        refine G.istore_n (pc := 33) cx dX0_letAshore_33 rfl (by decide) rfl ?_
        have L34_1 : ∀ (f k34 : Nat), N - k34 < f → k34 ≤ N → G K p9 l e9 (rmL 2 0 0) s9 m9 a9 b9 t9 c9 (MQ b9 (QCt K (some (.int (if cNoLv z N w < 0 then cNoLv z N w else nI (cLeaveN z w N)))) (bw K b (if cNoLv z N w < 0 then z else cLeaveTo z w N) V) sz) a9 s9 0 0 (kA K)) 4 (bw K b (cLeaveTo z w k34) V) sz 0 0 34 [(0, .ref b), (1, .int w), (2, .int (nI (cLeaveN z w k34))), (3, .int (nI k34))] [] := by
          intro f
          induction f with
          | zero => intro k34 h9; omega
          | succ f ih34 =>
            intro k34 h934 h834
            refine G.iload_n (pc := 34) cx dX0_letAshore_34 rfl 3 rfl ?_
            refine G.aload_n (pc := 35) cx dX0_letAshore_35 rfl 0 rfl ?_
            refine G.getB (pc := 36) cx dX0_letAshore_36 5 wm_fl_X0_63 (by decide) (congrArg (fun x => some (Value.int x)) (hF _ (by omega))) ?_
            refine G.icmp_geN (pc := 39) cx k34 N (by omega) (by omega) dX0_letAshore_39 (tgt := 83) (by decide) (fun cq39 => ?_) (fun cq39 => ?_)
            · skip
              have nq39 := Nat.not_lt.mpr cq39
              have ex34 : k34 = N := by omega
              try rw [ex34]
              refine G.iload_n (pc := 83) cx dX0_letAshore_83 rfl 2 rfl ?_
              refine G.if_neN (pc := 84) cx (cLeaveN z w N) (by omega) dX0_letAshore_84 (tgt := 92) (by decide) (fun cq84 => ?_) (fun cq84 => ?_)
              · skip
                refine G.iload_n (pc := 92) cx dX0_letAshore_92 rfl 2 rfl ?_
                refine G.iret (pc := 93) cx rfl dX0_letAshore_93 ?_ ?_ rfl
                · refine congrArg (fun x => some (Value.int x)) ?_
                  (try clear L34_1); (try clear ih34); (try clear hin9); (try clear cx); (try clear hN); first | (simp [cNoLv, *]; done) | (simp_all [cNoLv]; done)
                · refine congrArg (fun x => bw K b x V) ?_
                  (try clear L34_1); (try clear ih34); (try clear hin9); (try clear cx); (try clear hN); first | (simp [cNoLv, *]; done) | (simp_all [cNoLv]; done)
              · skip
                refine G.ldc (pc := 87) cx dX0_letAshore_87 (v := (-1000002)) wm_ct_X0_85 ?_
                refine G.goto (pc := 89) cx dX0_letAshore_89 (tgt := 93) (by decide) ?_
                refine G.iret (pc := 93) cx rfl dX0_letAshore_93 ?_ ?_ rfl
                · refine congrArg (fun x => some (Value.int x)) ?_
                  (try clear L34_1); (try clear ih34); (try clear hin9); (try clear cx); (try clear hN); first | (simp [cNoLv, *]; done) | (simp_all [cNoLv]; done)
                · refine congrArg (fun x => bw K b x V) ?_
                  (try clear L34_1); (try clear ih34); (try clear hin9); (try clear cx); (try clear hN); first | (simp [cNoLv, *]; done) | (simp_all [cNoLv]; done)
            · skip
              have nq39 := Nat.not_le.mpr cq39
              refine G.iload_n (pc := 42) cx dX0_letAshore_42 rfl 3 rfl ?_
              refine G.aload_n (pc := 43) cx dX0_letAshore_43 rfl 0 rfl ?_
              refine G.getB (pc := 44) cx dX0_letAshore_44 0 wm_fl_X0_11 (by decide) rfl ?_
              refine G.alenV (pc := 47) cx dX0_letAshore_47 1 rfl bw_crew (v := 16) rfl ?_
              refine G.icmp_geN (pc := 48) cx k34 16 (by omega) (by omega) dX0_letAshore_48 (tgt := 83) (by decide) (fun cq48 => ?_) (fun cq48 => ?_)
              · skip
                exact absurd cq48 (by omega)
              · skip
                have nq48 := Nat.not_le.mpr cq48
                refine G.aload_n (pc := 51) cx dX0_letAshore_51 rfl 0 rfl ?_
                refine G.getB (pc := 52) cx dX0_letAshore_52 0 wm_fl_X0_11 (by decide) rfl ?_
                refine G.iload_n (pc := 55) cx dX0_letAshore_55 rfl 3 rfl ?_
                refine G.aaldV (pc := 56) cx dX0_letAshore_56 1 rfl bw_crew (j := k34) rfl (by omega) (by decide) rfl ?_
                refine G.iload_n (pc := 57) cx dX0_letAshore_57 rfl 1 rfl ?_
                refine G.callV0 (pc := 58) (rest := []) (st1 := [.int (b2 ((cLeaveTo z w k34) (10 * k34 + 1) = w ∧ ¬ (cLeaveTo z w k34) (10 * k34 + 2) = 2))]) cx (c_X6_isOfWatch l K sz b (cLeaveTo z w k34) V k34 w (by omega)) ok_X6_isOfWatch dX0_letAshore_58 wm_ml_X0_180 rfl (bw_s (by omega)) rfl rfl (Nat.le_of_ble_eq_true rfl) ⟨Nat.le_of_ble_eq_true rfl, Nat.le_of_ble_eq_true rfl⟩ rfl ?_
                refine G.if_eqB (pc := 61) cx dX0_letAshore_61 (tgt := 77) (by decide) (fun cq61 => ?_) (fun cq61 => ?_)
                · skip
                  refine G.iinc (pc := 77) cx dX0_letAshore_77 (v := nI (k34 + 1)) (k := 3) rfl (nI_add k34 1) (by decide) rfl ?_
                  refine G.goto (pc := 80) cx dX0_letAshore_80 (tgt := 34) (by decide) ?_
                  refine G.cast (V' := (bw K b (cLeaveTo z w (k34 + 1)) V)) (congrArg (fun q9 => bw K b q9 V) (by first | (simp [cLeaveTo, *]; done) | (simp [cLeaveN, *]; done) | (simp_all [cLeaveTo]; done) | (simp_all [cLeaveN]; done))) ?_
                  refine G.castL (lv' := [(0, .ref b), (1, .int w), (2, .int (nI (cLeaveN z w k34))), (3, .int (nI (k34 + 1)))]) [1, 2, 3, 0] rfl ?_
                  refine G.lv0 (lv2 := [(0, .ref b), (1, .int w), (2, .int (nI (cLeaveN z w (k34 + 1)))), (3, .int (nI (k34 + 1)))]) (congrArg (fun q9 => ([(0, .ref b), (1, .int w), (2, .int q9), (3, .int (nI (k34 + 1)))] : List (Nat × Value))) (show (nI (cLeaveN z w k34) : Int32) = nI (cLeaveN z w (k34 + 1)) from by first | (simp [cLeaveTo, *]; done) | (simp [cLeaveN, *]; done) | (simp_all [cLeaveTo]; done) | (simp_all [cLeaveN]; done))) ?_
                  exact ih34 (k34 + 1) (by omega) (by omega)
                · skip
                  refine G.aload_n (pc := 64) cx dX0_letAshore_64 rfl 0 rfl ?_
                  refine G.getB (pc := 65) cx dX0_letAshore_65 0 wm_fl_X0_11 (by decide) rfl ?_
                  refine G.iload_n (pc := 68) cx dX0_letAshore_68 rfl 3 rfl ?_
                  refine G.aaldV (pc := 69) cx dX0_letAshore_69 1 rfl bw_crew (j := k34) rfl (by omega) (by decide) rfl ?_
                  refine G.iconst (pc := 70) cx dX0_letAshore_70 (v := 1) (by decide) ?_
                  refine G.putS (pc := 71) cx dX0_letAshore_71 2 wm_fl_X0_136 (by decide) (by decide) (by omega) ?_
                  refine G.iinc (pc := 74) cx dX0_letAshore_74 (v := nI (cLeaveN z w k34 + 1)) (k := 2) rfl (nI_add (cLeaveN z w k34) 1) (by decide) rfl ?_
                  refine G.iinc (pc := 77) cx dX0_letAshore_77 (v := nI (k34 + 1)) (k := 3) rfl (nI_add k34 1) (by decide) rfl ?_
                  refine G.goto (pc := 80) cx dX0_letAshore_80 (tgt := 34) (by decide) ?_
                  refine G.cast (V' := (bw K b (cLeaveTo z w (k34 + 1)) V)) (congrArg (fun q9 => bw K b q9 V) (by first | (simp [cLeaveTo, *]; done) | (simp [cLeaveN, *]; done) | (simp_all [cLeaveTo]; done) | (simp_all [cLeaveN]; done))) ?_
                  refine G.castL (lv' := [(0, .ref b), (1, .int w), (2, .int (nI (cLeaveN z w k34 + 1))), (3, .int (nI (k34 + 1)))]) [2, 3, 1, 0] rfl ?_
                  refine G.lv0 (lv2 := [(0, .ref b), (1, .int w), (2, .int (nI (cLeaveN z w (k34 + 1)))), (3, .int (nI (k34 + 1)))]) (congrArg (fun q9 => ([(0, .ref b), (1, .int w), (2, .int q9), (3, .int (nI (k34 + 1)))] : List (Nat × Value))) (show (nI (cLeaveN z w k34 + 1) : Int32) = nI (cLeaveN z w (k34 + 1)) from by first | (simp [cLeaveTo, *]; done) | (simp [cLeaveN, *]; done) | (simp_all [cLeaveTo]; done) | (simp_all [cLeaveN]; done))) ?_
                  exact ih34 (k34 + 1) (by omega) (by omega)
        refine G.cast (V' := (bw K b (cLeaveTo z w 0) V)) (congrArg (fun q9 => bw K b q9 V) (by rfl)) ?_
        refine G.castL (lv' := [(0, .ref b), (1, .int w), (2, .int 0), (3, .int 0)]) [2, 3, 1, 0] rfl ?_
        refine G.lv0 (lv2 := [(0, .ref b), (1, .int w), (2, .int (nI (cLeaveN z w 0))), (3, .int 0)]) (congrArg (fun q9 => ([(0, .ref b), (1, .int w), (2, .int q9), (3, .int 0)] : List (Nat × Value))) (show (0 : Int32) = nI (cLeaveN z w 0) from by rfl)) ?_
        refine G.lv0 (lv2 := [(0, .ref b), (1, .int w), (2, .int (nI (cLeaveN z w 0))), (3, .int (nI 0))]) (congrArg (fun q9 => ([(0, .ref b), (1, .int w), (2, .int (nI (cLeaveN z w 0))), (3, .int q9)] : List (Nat × Value))) (show (0 : Int32) = nI 0 from by rfl)) ?_
        exact L34_1 (N + 1) 0 (by omega) (by omega)
      · skip
        refine G.ldc (pc := 27) cx dX0_letAshore_27 (v := (-1000002)) wm_ct_X0_85 ?_
        refine G.iret (pc := 29) cx rfl dX0_letAshore_29 ?_ ?_ rfl
        · refine congrArg (fun x => some (Value.int x)) ?_
          (try clear L34_1); (try clear ih34); (try clear hin9); (try clear cx); (try clear hN); first | (simp [cNoLv, *]; done) | (simp_all [cNoLv]; done)
        · refine congrArg (fun x => bw K b x V) ?_
          (try clear L34_1); (try clear ih34); (try clear hin9); (try clear cx); (try clear hN); first | (simp [cNoLv, *]; done) | (simp_all [cNoLv]; done)
  · skip
    refine G.ldc (pc := 9) cx dX0_letAshore_9 (v := (-1000001)) wm_ct_X0_84 ?_
    refine G.iret (pc := 11) cx rfl dX0_letAshore_11 ?_ ?_ rfl
    · refine congrArg (fun x => some (Value.int x)) ?_
      (try clear L34_1); (try clear ih34); (try clear hin9); (try clear cx); (try clear hN); first | (simp [cNoLv, *]; done) | (simp_all [cNoLv]; done)
    · refine congrArg (fun x => bw K b x V) ?_
      (try clear L34_1); (try clear ih34); (try clear hin9); (try clear cx); (try clear hN); first | (simp [cNoLv, *]; done) | (simp_all [cNoLv]; done)
set_option maxHeartbeats 4000000 in
set_option maxRecDepth 100000 in
theorem c_X0_endVoyage (l : Launch) (K : KT) (sz : Nat) (b : Nat) (z : Zt) (V : VW) (N : Nat) (hN : z 194 = nI N) (h16 : N ≤ 16) : Ct l K yX0_endVoyage cX0_endVoyage 4 (some .int) 3 [.ref b] (bw K b z V) sz (some (.int (if cNoPO z < 0 then cNoPO z else cPOSum z N))) (bw K b (if cNoPO z < 0 then z else cDoPO z N) V) sz 0 0 := by
  refine Ct.ofG (by decide) (Nat.le_of_ble_eq_true rfl) ?_
  intro p9 e9 s9 m9 a9 b9 t9 c9 cx hin9
  refine G.lv0 (lv2 := [(0, .ref b)]) rfl ?_
  have hF : ∀ k, k ≤ N → cPOTo z k 194 = nI N := fun k hk => (cPOTo_o z (by omega) (by omega) (by omega) (by omega) k (fun q hq => by omega)).trans hN
  refine G.aload_n (pc := 0) cx dX0_endVoyage_0 rfl 0 rfl ?_
  refine G.getB (pc := 1) cx dX0_endVoyage_1 9 wm_fl_X0_76 (by decide) rfl ?_
  refine G.if_ne (pc := 4) cx dX0_endVoyage_4 (tgt := 14) (by decide) (fun cq4 => ?_) (fun cq4 => ?_)
  · skip
    refine G.ldc (pc := 14) cx dX0_endVoyage_14 (v := (-1000002)) wm_ct_X0_85 ?_
    refine G.iret (pc := 16) cx rfl dX0_endVoyage_16 ?_ ?_ rfl
    · refine congrArg (fun x => some (Value.int x)) ?_
      (try clear hin9); (try clear cx); (try clear hN); first | (simp [cNoPO, cDoPO, *]; done) | (simp_all [cNoPO, cDoPO]; done)
    · refine congrArg (fun x => bw K b x V) ?_
      (try clear hin9); (try clear cx); (try clear hN); first | (simp [cNoPO, cDoPO, *]; done) | (simp_all [cNoPO, cDoPO]; done)
  · skip
    refine G.aload_n (pc := 7) cx dX0_endVoyage_7 rfl 0 rfl ?_
    refine G.getB (pc := 8) cx dX0_endVoyage_8 7 wm_fl_X0_70 (by decide) rfl ?_
    refine G.if_ne (pc := 11) cx dX0_endVoyage_11 (tgt := 17) (by decide) (fun cq11 => ?_) (fun cq11 => ?_)
    · skip
      refine G.iconst (pc := 17) cx dX0_endVoyage_17 (v := 0) (by decide) ?_
      refine G.istore_n (pc := 18) cx dX0_endVoyage_18 rfl (by decide) rfl ?_
      refine G.iconst (pc := 19) cx dX0_endVoyage_19 (v := 0) (by decide) ?_
      refine G.istore_n (pc := 20) cx dX0_endVoyage_20 rfl (by decide) rfl ?_
      have L21_1 : ∀ (f k21 : Nat), N - k21 < f → k21 ≤ N → G K p9 l e9 (rmL 3 0 0) s9 m9 a9 b9 t9 c9 (MQ b9 (QCt K (some (.int (if cNoPO z < 0 then cNoPO z else cPOSum z N))) (bw K b (if cNoPO z < 0 then z else cDoPO z N) V) sz) a9 s9 0 0 (kA K)) 4 (bw K b (cPOTo z k21) V) sz 0 0 21 [(0, .ref b), (1, .int (cPOSum z k21)), (2, .int (nI k21))] [] := by
        intro f
        induction f with
        | zero => intro k21 h9; omega
        | succ f ih21 =>
          intro k21 h921 h821
          refine G.iload_n (pc := 21) cx dX0_endVoyage_21 rfl 2 rfl ?_
          refine G.aload_n (pc := 22) cx dX0_endVoyage_22 rfl 0 rfl ?_
          refine G.getB (pc := 23) cx dX0_endVoyage_23 5 wm_fl_X0_63 (by decide) (congrArg (fun x => some (Value.int x)) (hF _ (by omega))) ?_
          refine G.icmp_geN (pc := 26) cx k21 N (by omega) (by omega) dX0_endVoyage_26 (tgt := 93) (by decide) (fun cq26 => ?_) (fun cq26 => ?_)
          · skip
            have nq26 := Nat.not_lt.mpr cq26
            have ex21 : k21 = N := by omega
            try rw [ex21]
            refine G.aload_n (pc := 93) cx dX0_endVoyage_93 rfl 0 rfl ?_
            refine G.dup (pc := 94) cx dX0_endVoyage_94 rfl ?_
            refine G.getB (pc := 95) cx dX0_endVoyage_95 6 wm_fl_X0_67 (by decide) rfl ?_
            refine G.iconst (pc := 98) cx dX0_endVoyage_98 (v := 1) (by decide) ?_
            refine G.iadd (pc := 99) cx dX0_endVoyage_99 ?_
            refine G.putB6 (pc := 100) cx dX0_endVoyage_100 wm_fl_X0_67 ?_
            refine G.aload_n (pc := 103) cx dX0_endVoyage_103 rfl 0 rfl ?_
            refine G.iconst (pc := 104) cx dX0_endVoyage_104 (v := 0) (by decide) ?_
            refine G.putB7 (pc := 105) cx dX0_endVoyage_105 wm_fl_X0_70 ?_
            refine G.iload_n (pc := 108) cx dX0_endVoyage_108 rfl 1 rfl ?_
            refine G.iret (pc := 109) cx rfl dX0_endVoyage_109 ?_ ?_ rfl
            · refine congrArg (fun x => some (Value.int x)) ?_
              (try clear L21_1); (try clear ih21); (try clear hin9); (try clear cx); (try clear hN); first | (simp [cNoPO, cDoPO, *]; done) | (simp_all [cNoPO, cDoPO]; done)
            · refine congrArg (fun x => bw K b x V) ?_
              (try clear L21_1); (try clear ih21); (try clear hin9); (try clear cx); (try clear hN); first | (simp [cNoPO, cDoPO, *]; done) | (simp_all [cNoPO, cDoPO]; done)
          · skip
            have nq26 := Nat.not_le.mpr cq26
            refine G.iload_n (pc := 29) cx dX0_endVoyage_29 rfl 2 rfl ?_
            refine G.aload_n (pc := 30) cx dX0_endVoyage_30 rfl 0 rfl ?_
            refine G.getB (pc := 31) cx dX0_endVoyage_31 0 wm_fl_X0_11 (by decide) rfl ?_
            refine G.alenV (pc := 34) cx dX0_endVoyage_34 1 rfl bw_crew (v := 16) rfl ?_
            refine G.icmp_geN (pc := 35) cx k21 16 (by omega) (by omega) dX0_endVoyage_35 (tgt := 93) (by decide) (fun cq35 => ?_) (fun cq35 => ?_)
            · skip
              exact absurd cq35 (by omega)
            · skip
              have nq35 := Nat.not_le.mpr cq35
              refine G.aload_n (pc := 38) cx dX0_endVoyage_38 rfl 0 rfl ?_
              refine G.getB (pc := 39) cx dX0_endVoyage_39 0 wm_fl_X0_11 (by decide) rfl ?_
              refine G.iload_n (pc := 42) cx dX0_endVoyage_42 rfl 2 rfl ?_
              refine G.aaldV (pc := 43) cx dX0_endVoyage_43 1 rfl bw_crew (j := k21) rfl (by omega) (by decide) rfl ?_
              refine G.callV0 (pc := 44) (rest := []) (st1 := [.int (cBal (cPOTo z k21) k21)]) cx (c_X6_balance l K sz b (cPOTo z k21) V k21 (by omega)) ok_X6_balance dX0_endVoyage_44 wm_ml_X0_139 rfl (bw_s (by omega)) rfl rfl (Nat.le_of_ble_eq_true rfl) ⟨Nat.le_of_ble_eq_true rfl, Nat.le_of_ble_eq_true rfl⟩ rfl ?_
              refine G.istore_n (pc := 47) cx dX0_endVoyage_47 rfl (by decide) rfl ?_
              refine G.iload_n (pc := 48) cx dX0_endVoyage_48 rfl 0 rfl ?_
              refine G.if_le (pc := 49) cx dX0_endVoyage_49 (tgt := 68) (by decide) (fun cq49 => ?_) (fun cq49 => ?_)
              · skip
                have nq49 := Int32.not_lt.mpr cq49
                refine G.aload_n (pc := 68) cx dX0_endVoyage_68 rfl 1 rfl ?_
                refine G.getB (pc := 69) cx dX0_endVoyage_69 0 wm_fl_X0_11 (by decide) rfl ?_
                refine G.iload_n (pc := 72) cx dX0_endVoyage_72 rfl 3 rfl ?_
                refine G.aaldV (pc := 73) cx dX0_endVoyage_73 1 rfl bw_crew (j := k21) rfl (by omega) (by decide) rfl ?_
                refine G.iload_n (pc := 74) cx dX0_endVoyage_74 rfl 0 rfl ?_
                have J84_2 : G K p9 l e9 (rmL 3 0 0) s9 m9 a9 b9 t9 c9 (MQ b9 (QCt K (some (.int (if cNoPO z < 0 then cNoPO z else cPOSum z N))) (bw K b (if cNoPO z < 0 then z else cDoPO z N) V) sz) a9 s9 0 0 (kA K)) 4 (bw K b (cPOTo z k21) V) sz 0 0 84 [(0, .ref b), (1, .int (cPOSum z k21)), (2, .int (nI k21)), (3, .int (cBal (cPOTo z k21) k21))] [.int (if cBal (cPOTo z k21) k21 < 0 then -(cBal (cPOTo z k21) k21) else 0), .ref (b + 2 + k21)] := by
                  refine G.callV0 (pc := 84) (rest := []) (st1 := []) cx (c_X6_beginVoyage l K sz b (cPOTo z k21) V k21 (if cBal (cPOTo z k21) k21 < 0 then -(cBal (cPOTo z k21) k21) else 0) (by omega)) ok_X6_beginVoyage dX0_endVoyage_84 wm_ml_X0_203 rfl (bw_s (by omega)) rfl rfl (Nat.le_of_ble_eq_true rfl) ⟨Nat.le_of_ble_eq_true rfl, Nat.le_of_ble_eq_true rfl⟩ rfl ?_
                  refine G.iinc (pc := 87) cx dX0_endVoyage_87 (v := nI (k21 + 1)) (k := 2) rfl (nI_add k21 1) (by decide) rfl ?_
                  refine G.goto (pc := 90) cx dX0_endVoyage_90 (tgt := 21) (by decide) ?_
                  refine G.cast (V' := (bw K b (cPOTo z (k21 + 1)) V)) (congrArg (fun q9 => bw K b q9 V) (by first | (simp [cPOTo, cPO1, *]; done) | (simp [cPOSum, *]; done) | (simp_all [cPOTo, cPO1]; done) | (simp_all [cPOSum]; done))) ?_
                  refine G.castL (lv' := [(0, .ref b), (1, .int (cPOSum z k21)), (2, .int (nI (k21 + 1)))]) [1, 2, 0] rfl ?_
                  refine G.lv0 (lv2 := [(0, .ref b), (1, .int (cPOSum z (k21 + 1))), (2, .int (nI (k21 + 1)))]) (congrArg (fun q9 => ([(0, .ref b), (1, .int q9), (2, .int (nI (k21 + 1)))] : List (Nat × Value))) (show (cPOSum z k21 : Int32) = cPOSum z (k21 + 1) from by first | (simp [cPOTo, cPO1, *]; done) | (simp [cPOSum, *]; done) | (simp_all [cPOTo, cPO1]; done) | (simp_all [cPOSum]; done))) ?_
                  exact ih21 (k21 + 1) (by omega) (by omega)
                refine G.if_ge (pc := 75) cx dX0_endVoyage_75 (tgt := 83) (by decide) (fun cq75 => ?_) (fun cq75 => ?_)
                · skip
                  have nq75 := Int32.not_lt.mpr cq75
                  refine G.iconst (pc := 83) cx dX0_endVoyage_83 (v := 0) (by decide) ?_
                  refine G.castS (st' := [.int (if cBal (cPOTo z k21) k21 < 0 then -(cBal (cPOTo z k21) k21) else 0), .ref (b + 2 + k21)]) (congrArg (fun q9 => ([.int q9, .ref (b + 2 + k21)] : List Value)) (show (0 : Int32) = if cBal (cPOTo z k21) k21 < 0 then -(cBal (cPOTo z k21) k21) else 0 from by simp [*])) ?_
                  refine G.castL (lv' := [(0, .ref b), (1, .int (cPOSum z k21)), (2, .int (nI k21)), (3, .int (cBal (cPOTo z k21) k21))]) [1, 2, 3, 0] rfl ?_
                  exact J84_2
                · skip
                  have nq75 := Int32.not_le.mp cq75
                  refine G.iload_n (pc := 78) cx dX0_endVoyage_78 rfl 0 rfl ?_
                  refine G.ineg (pc := 79) cx dX0_endVoyage_79 ?_
                  refine G.goto (pc := 80) cx dX0_endVoyage_80 (tgt := 84) (by decide) ?_
                  refine G.castS (st' := [.int (if cBal (cPOTo z k21) k21 < 0 then -(cBal (cPOTo z k21) k21) else 0), .ref (b + 2 + k21)]) (congrArg (fun q9 => ([.int q9, .ref (b + 2 + k21)] : List Value)) (show (-(cBal (cPOTo z k21) k21) : Int32) = if cBal (cPOTo z k21) k21 < 0 then -(cBal (cPOTo z k21) k21) else 0 from by simp [*])) ?_
                  refine G.castL (lv' := [(0, .ref b), (1, .int (cPOSum z k21)), (2, .int (nI k21)), (3, .int (cBal (cPOTo z k21) k21))]) [1, 2, 3, 0] rfl ?_
                  exact J84_2
              · skip
                have nq49 := Int32.not_le.mp cq49
                refine G.aload_n (pc := 52) cx dX0_endVoyage_52 rfl 1 rfl ?_
                refine G.iload_n (pc := 53) cx dX0_endVoyage_53 rfl 3 rfl ?_
                refine G.aload_n (pc := 54) cx dX0_endVoyage_54 rfl 1 rfl ?_
                refine G.getB (pc := 55) cx dX0_endVoyage_55 0 wm_fl_X0_11 (by decide) rfl ?_
                refine G.iload_n (pc := 58) cx dX0_endVoyage_58 rfl 3 rfl ?_
                refine G.aaldV (pc := 59) cx dX0_endVoyage_59 1 rfl bw_crew (j := k21) rfl (by omega) (by decide) rfl ?_
                refine G.iload_n (pc := 60) cx dX0_endVoyage_60 rfl 0 rfl ?_
                refine G.callV0 (pc := 61) (rest := []) (st1 := []) cx (c_X0_payTo l K sz b (cPOTo z k21) V k21 (cBal (cPOTo z k21) k21) (by omega)) ok_X0_payTo dX0_endVoyage_61 wm_ml_X0_196 rfl bw_b rfl rfl (Nat.le_of_ble_eq_true rfl) ⟨Nat.le_of_ble_eq_true rfl, Nat.le_of_ble_eq_true rfl⟩ rfl ?_
                refine G.iload_n (pc := 64) cx dX0_endVoyage_64 rfl 2 rfl ?_
                refine G.iload_n (pc := 65) cx dX0_endVoyage_65 rfl 0 rfl ?_
                refine G.iadd (pc := 66) cx dX0_endVoyage_66 ?_
                refine G.istore_n (pc := 67) cx dX0_endVoyage_67 rfl (by decide) rfl ?_
                refine G.aload_n (pc := 68) cx dX0_endVoyage_68 rfl 2 rfl ?_
                refine G.getB (pc := 69) cx dX0_endVoyage_69 0 wm_fl_X0_11 (by decide) rfl ?_
                refine G.iload_n (pc := 72) cx dX0_endVoyage_72 rfl 3 rfl ?_
                refine G.aaldV (pc := 73) cx dX0_endVoyage_73 1 rfl bw_crew (j := k21) rfl (by omega) (by decide) rfl ?_
                refine G.iload_n (pc := 74) cx dX0_endVoyage_74 rfl 1 rfl ?_
                have J84_3 : G K p9 l e9 (rmL 3 0 0) s9 m9 a9 b9 t9 c9 (MQ b9 (QCt K (some (.int (if cNoPO z < 0 then cNoPO z else cPOSum z N))) (bw K b (if cNoPO z < 0 then z else cDoPO z N) V) sz) a9 s9 0 0 (kA K)) 4 (bw K b (cPay (cPOTo z k21) k21 (cBal (cPOTo z k21) k21)) V) sz 0 0 84 [(0, .ref b), (1, .int ((cPOSum z k21) + (cBal (cPOTo z k21) k21))), (2, .int (nI k21)), (3, .int (cBal (cPOTo z k21) k21))] [.int (if cBal (cPOTo z k21) k21 < 0 then -(cBal (cPOTo z k21) k21) else 0), .ref (b + 2 + k21)] := by
                  refine G.callV0 (pc := 84) (rest := []) (st1 := []) cx (c_X6_beginVoyage l K sz b (cPay (cPOTo z k21) k21 (cBal (cPOTo z k21) k21)) V k21 (if cBal (cPOTo z k21) k21 < 0 then -(cBal (cPOTo z k21) k21) else 0) (by omega)) ok_X6_beginVoyage dX0_endVoyage_84 wm_ml_X0_203 rfl (bw_s (by omega)) rfl rfl (Nat.le_of_ble_eq_true rfl) ⟨Nat.le_of_ble_eq_true rfl, Nat.le_of_ble_eq_true rfl⟩ rfl ?_
                  refine G.iinc (pc := 87) cx dX0_endVoyage_87 (v := nI (k21 + 1)) (k := 2) rfl (nI_add k21 1) (by decide) rfl ?_
                  refine G.goto (pc := 90) cx dX0_endVoyage_90 (tgt := 21) (by decide) ?_
                  refine G.cast (V' := (bw K b (cPOTo z (k21 + 1)) V)) (congrArg (fun q9 => bw K b q9 V) (by first | (simp [cPOTo, cPO1, *]; done) | (simp [cPOSum, *]; done) | (simp_all [cPOTo, cPO1]; done) | (simp_all [cPOSum]; done))) ?_
                  refine G.castL (lv' := [(0, .ref b), (1, .int ((cPOSum z k21) + (cBal (cPOTo z k21) k21))), (2, .int (nI (k21 + 1)))]) [1, 2, 0] rfl ?_
                  refine G.lv0 (lv2 := [(0, .ref b), (1, .int (cPOSum z (k21 + 1))), (2, .int (nI (k21 + 1)))]) (congrArg (fun q9 => ([(0, .ref b), (1, .int q9), (2, .int (nI (k21 + 1)))] : List (Nat × Value))) (show ((cPOSum z k21) + (cBal (cPOTo z k21) k21) : Int32) = cPOSum z (k21 + 1) from by first | (simp [cPOTo, cPO1, *]; done) | (simp [cPOSum, *]; done) | (simp_all [cPOTo, cPO1]; done) | (simp_all [cPOSum]; done))) ?_
                  exact ih21 (k21 + 1) (by omega) (by omega)
                refine G.if_ge (pc := 75) cx dX0_endVoyage_75 (tgt := 83) (by decide) (fun cq75 => ?_) (fun cq75 => ?_)
                · skip
                  have nq75 := Int32.not_lt.mpr cq75
                  refine G.iconst (pc := 83) cx dX0_endVoyage_83 (v := 0) (by decide) ?_
                  refine G.castS (st' := [.int (if cBal (cPOTo z k21) k21 < 0 then -(cBal (cPOTo z k21) k21) else 0), .ref (b + 2 + k21)]) (congrArg (fun q9 => ([.int q9, .ref (b + 2 + k21)] : List Value)) (show (0 : Int32) = if cBal (cPOTo z k21) k21 < 0 then -(cBal (cPOTo z k21) k21) else 0 from by simp [*])) ?_
                  refine G.castL (lv' := [(0, .ref b), (1, .int ((cPOSum z k21) + (cBal (cPOTo z k21) k21))), (2, .int (nI k21)), (3, .int (cBal (cPOTo z k21) k21))]) [2, 0, 3, 1] rfl ?_
                  exact J84_3
                · skip
                  have nq75 := Int32.not_le.mp cq75
                  refine G.iload_n (pc := 78) cx dX0_endVoyage_78 rfl 1 rfl ?_
                  refine G.ineg (pc := 79) cx dX0_endVoyage_79 ?_
                  refine G.goto (pc := 80) cx dX0_endVoyage_80 (tgt := 84) (by decide) ?_
                  refine G.castS (st' := [.int (if cBal (cPOTo z k21) k21 < 0 then -(cBal (cPOTo z k21) k21) else 0), .ref (b + 2 + k21)]) (congrArg (fun q9 => ([.int q9, .ref (b + 2 + k21)] : List Value)) (show (-(cBal (cPOTo z k21) k21) : Int32) = if cBal (cPOTo z k21) k21 < 0 then -(cBal (cPOTo z k21) k21) else 0 from by simp [*])) ?_
                  refine G.castL (lv' := [(0, .ref b), (1, .int ((cPOSum z k21) + (cBal (cPOTo z k21) k21))), (2, .int (nI k21)), (3, .int (cBal (cPOTo z k21) k21))]) [2, 0, 3, 1] rfl ?_
                  exact J84_3
      refine G.cast (V' := (bw K b (cPOTo z 0) V)) (congrArg (fun q9 => bw K b q9 V) (by rfl)) ?_
      refine G.castL (lv' := [(0, .ref b), (1, .int 0), (2, .int 0)]) [2, 1, 0] rfl ?_
      refine G.lv0 (lv2 := [(0, .ref b), (1, .int (cPOSum z 0)), (2, .int 0)]) (congrArg (fun q9 => ([(0, .ref b), (1, .int q9), (2, .int 0)] : List (Nat × Value))) (show (0 : Int32) = cPOSum z 0 from by rfl)) ?_
      refine G.lv0 (lv2 := [(0, .ref b), (1, .int (cPOSum z 0)), (2, .int (nI 0))]) (congrArg (fun q9 => ([(0, .ref b), (1, .int (cPOSum z 0)), (2, .int q9)] : List (Nat × Value))) (show (0 : Int32) = nI 0 from by rfl)) ?_
      exact L21_1 (N + 1) 0 (by omega) (by omega)
    · skip
      refine G.ldc (pc := 14) cx dX0_endVoyage_14 (v := (-1000002)) wm_ct_X0_85 ?_
      refine G.iret (pc := 16) cx rfl dX0_endVoyage_16 ?_ ?_ rfl
      · refine congrArg (fun x => some (Value.int x)) ?_
        (try clear J84_3); (try clear J84_2); (try clear L21_1); (try clear ih21); (try clear hin9); (try clear cx); (try clear hN); first | (simp [cNoPO, cDoPO, *]; done) | (simp_all [cNoPO, cDoPO]; done)
      · refine congrArg (fun x => bw K b x V) ?_
        (try clear J84_3); (try clear J84_2); (try clear L21_1); (try clear ih21); (try clear hin9); (try clear cx); (try clear hN); first | (simp [cNoPO, cDoPO, *]; done) | (simp_all [cNoPO, cDoPO]; done)
set_option maxHeartbeats 4000000 in
set_option maxRecDepth 100000 in
theorem c_X0_couldAllBeFined (l : Launch) (K : KT) (sz : Nat) (b : Nat) (z : Zt) (V : VW) (w : Int32) (p : Int32) (q : Int32) (N : Nat) (hN : z 194 = nI N) (h16 : N ≤ 16) : Ct l K yX0_couldAllBeFined cX0_couldAllBeFined 6 (some .boolean) 3 [.ref b, .int w, .int p, .int q] (bw K b z V) sz (some (.int (b2 (cCan z w p q N 0 = true)))) (bw K b z V) sz 0 0 := by
  refine Ct.ofG (by decide) (Nat.le_of_ble_eq_true rfl) ?_
  intro p9 e9 s9 m9 a9 b9 t9 c9 cx hin9
  refine G.lv0 (lv2 := [(0, .ref b), (1, .int w), (2, .int p), (3, .int q)]) rfl ?_
  refine G.iload_n (pc := 0) cx dX0_couldAllBeFined_0 rfl 3 rfl ?_
  refine G.istore (pc := 1) cx dX0_couldAllBeFined_1 (by decide) rfl ?_
  refine G.iconst (pc := 3) cx dX0_couldAllBeFined_3 (v := 0) (by decide) ?_
  refine G.istore (pc := 4) cx dX0_couldAllBeFined_4 (by decide) rfl ?_
  have L6_1 : ∀ (f k6 : Nat), N - k6 < f → k6 ≤ N → (cCan z w p q (N - k6) k6 = cCan z w p q N 0) → G K p9 l e9 (rmL 3 0 0) s9 m9 a9 b9 t9 c9 (MQ b9 (QCt K (some (.int (b2 (cCan z w p q N 0 = true)))) (bw K b z V) sz) a9 s9 0 0 (kA K)) 6 (bw K b z V) sz 0 0 6 [(0, .ref b), (1, .int w), (2, .int p), (3, .int q), (4, .int (cLo z w q k6)), (5, .int (nI k6))] [] := by
    intro f
    induction f with
    | zero => intro k6 h9; omega
    | succ f ih6 =>
      intro k6 h96 h86 hM
      refine G.iload (pc := 6) cx dX0_couldAllBeFined_6 5 rfl ?_
      refine G.aload_n (pc := 8) cx dX0_couldAllBeFined_8 rfl 0 rfl ?_
      refine G.getB (pc := 9) cx dX0_couldAllBeFined_9 5 wm_fl_X0_63 (by decide) (congrArg (fun x => some (Value.int x)) (hN)) ?_
      refine G.icmp_geN (pc := 12) cx k6 N (by omega) (by omega) dX0_couldAllBeFined_12 (tgt := 75) (by decide) (fun cq12 => ?_) (fun cq12 => ?_)
      · skip
        have nq12 := Nat.not_lt.mpr cq12
        have ex6 : k6 = N := by omega
        try rw [ex6]
        refine G.iconst (pc := 75) cx dX0_couldAllBeFined_75 (v := 1) (by decide) ?_
        refine G.zret (pc := 76) cx rfl dX0_couldAllBeFined_76 rfl ?_ ?_ rfl
        · refine congrArg (fun x => some (Value.int x)) ?_
          (try clear L6_1); (try clear ih6); (try clear hin9); (try clear cx); exact b2_t (by rw [← hM, ex6, Nat.sub_self]; rfl)
        · rfl
      · skip
        have nq12 := Nat.not_le.mpr cq12
        refine G.iload (pc := 15) cx dX0_couldAllBeFined_15 5 rfl ?_
        refine G.aload_n (pc := 17) cx dX0_couldAllBeFined_17 rfl 0 rfl ?_
        refine G.getB (pc := 18) cx dX0_couldAllBeFined_18 0 wm_fl_X0_11 (by decide) rfl ?_
        refine G.alenV (pc := 21) cx dX0_couldAllBeFined_21 1 rfl bw_crew (v := 16) rfl ?_
        refine G.icmp_geN (pc := 22) cx k6 16 (by omega) (by omega) dX0_couldAllBeFined_22 (tgt := 75) (by decide) (fun cq22 => ?_) (fun cq22 => ?_)
        · skip
          exact absurd cq22 (by omega)
        · skip
          have nq22 := Nat.not_le.mpr cq22
          refine G.aload_n (pc := 25) cx dX0_couldAllBeFined_25 rfl 0 rfl ?_
          refine G.getB (pc := 26) cx dX0_couldAllBeFined_26 0 wm_fl_X0_11 (by decide) rfl ?_
          refine G.iload (pc := 29) cx dX0_couldAllBeFined_29 5 rfl ?_
          refine G.aaldV (pc := 31) cx dX0_couldAllBeFined_31 1 rfl bw_crew (j := k6) rfl (by omega) (by decide) rfl ?_
          refine G.iload_n (pc := 32) cx dX0_couldAllBeFined_32 rfl 1 rfl ?_
          refine G.callV0 (pc := 33) (rest := []) (st1 := [.int (b2 (z (10 * k6 + 1) = w ∧ ¬ z (10 * k6 + 2) = 2))]) cx (c_X6_isOfWatch l K sz b z V k6 w (by omega)) ok_X6_isOfWatch dX0_couldAllBeFined_33 wm_ml_X0_180 rfl (bw_s (by omega)) rfl rfl (Nat.le_of_ble_eq_true rfl) ⟨Nat.le_of_ble_eq_true rfl, Nat.le_of_ble_eq_true rfl⟩ rfl ?_
          refine G.if_eqB (pc := 36) cx dX0_couldAllBeFined_36 (tgt := 69) (by decide) (fun cq36 => ?_) (fun cq36 => ?_)
          · skip
            refine G.iinc (pc := 69) cx dX0_couldAllBeFined_69 (v := nI (k6 + 1)) (k := 5) rfl (nI_add k6 1) (by decide) rfl ?_
            refine G.goto (pc := 72) cx dX0_couldAllBeFined_72 (tgt := 6) (by decide) ?_
            refine G.castL (lv' := [(0, .ref b), (1, .int w), (2, .int p), (3, .int q), (4, .int (cLo z w q k6)), (5, .int (nI (k6 + 1)))]) [1, 2, 3, 4, 5, 0] rfl ?_
            refine G.lv0 (lv2 := [(0, .ref b), (1, .int w), (2, .int p), (3, .int q), (4, .int (cLo z w q (k6 + 1))), (5, .int (nI (k6 + 1)))]) (congrArg (fun q9 => ([(0, .ref b), (1, .int w), (2, .int p), (3, .int q), (4, .int q9), (5, .int (nI (k6 + 1)))] : List (Nat × Value))) (show (cLo z w q k6 : Int32) = cLo z w q (k6 + 1) from by first | (simp [cLo, *]; done) | (simp_all [cLo]; done))) ?_
            exact ih6 (k6 + 1) (by omega) (by omega) (by first | exact (cCan_s cq12 (fun h => cq36 h.1)).symm.trans hM | exact (cCan_s cq12 (fun h => cq61 h.2)).symm.trans hM)
          · skip
            refine G.aload_n (pc := 39) cx dX0_couldAllBeFined_39 rfl 0 rfl ?_
            refine G.getB (pc := 40) cx dX0_couldAllBeFined_40 0 wm_fl_X0_11 (by decide) rfl ?_
            refine G.iload (pc := 43) cx dX0_couldAllBeFined_43 5 rfl ?_
            refine G.aaldV (pc := 45) cx dX0_couldAllBeFined_45 1 rfl bw_crew (j := k6) rfl (by omega) (by decide) rfl ?_
            refine G.iload (pc := 46) cx dX0_couldAllBeFined_46 4 rfl ?_
            have J58_2 : G K p9 l e9 (rmL 3 0 0) s9 m9 a9 b9 t9 c9 (MQ b9 (QCt K (some (.int (b2 (cCan z w p q N 0 = true)))) (bw K b z V) sz) a9 s9 0 0 (kA K)) 6 (bw K b z V) sz 0 0 58 [(0, .ref b), (1, .int w), (2, .int p), (3, .int q), (4, .int (cLo z w q k6)), (5, .int (nI k6))] [.int (cPart z w p q k6), .ref (b + 2 + k6)] := by
              refine G.callV0 (pc := 58) (rest := []) (st1 := [.int (b2 (¬ cBal z k6 - (cPart z w p q k6) < -4000))]) cx (c_X6_couldBeFined l K sz b z V k6 (cPart z w p q k6) (by omega)) ok_X6_couldBeFined dX0_couldAllBeFined_58 wm_ml_X0_162 rfl (bw_s (by omega)) rfl rfl (Nat.le_of_ble_eq_true rfl) ⟨Nat.le_of_ble_eq_true rfl, Nat.le_of_ble_eq_true rfl⟩ rfl ?_
              refine G.if_neB (pc := 61) cx dX0_couldAllBeFined_61 (tgt := 66) (by decide) (fun cq61 => ?_) (fun cq61 => ?_)
              · skip
                refine G.iinc (pc := 66) cx dX0_couldAllBeFined_66 (v := (cLo z w q k6) - 1) (k := 4) rfl (iinc_m1 _) (by decide) rfl ?_
                refine G.iinc (pc := 69) cx dX0_couldAllBeFined_69 (v := nI (k6 + 1)) (k := 5) rfl (nI_add k6 1) (by decide) rfl ?_
                refine G.goto (pc := 72) cx dX0_couldAllBeFined_72 (tgt := 6) (by decide) ?_
                refine G.castL (lv' := [(0, .ref b), (1, .int w), (2, .int p), (3, .int q), (4, .int ((cLo z w q k6) - 1)), (5, .int (nI (k6 + 1)))]) [2, 3, 4, 5, 1, 0] rfl ?_
                refine G.lv0 (lv2 := [(0, .ref b), (1, .int w), (2, .int p), (3, .int q), (4, .int (cLo z w q (k6 + 1))), (5, .int (nI (k6 + 1)))]) (congrArg (fun q9 => ([(0, .ref b), (1, .int w), (2, .int p), (3, .int q), (4, .int q9), (5, .int (nI (k6 + 1)))] : List (Nat × Value))) (show ((cLo z w q k6) - 1 : Int32) = cLo z w q (k6 + 1) from by first | (simp [cLo, *]; done) | (simp_all [cLo]; done))) ?_
                exact ih6 (k6 + 1) (by omega) (by omega) (by first | exact (cCan_s cq12 (fun h => cq36 h.1)).symm.trans hM | exact (cCan_s cq12 (fun h => cq61 h.2)).symm.trans hM)
              · skip
                refine G.iconst (pc := 64) cx dX0_couldAllBeFined_64 (v := 0) (by decide) ?_
                refine G.zret (pc := 65) cx rfl dX0_couldAllBeFined_65 rfl ?_ ?_ rfl
                · refine congrArg (fun x => some (Value.int x)) ?_
                  (try clear J58_2); (try clear L6_1); (try clear ih6); (try clear hin9); (try clear cx); exact (b2_f (by rw [← hM, cCan_b cq12 ⟨cq36, Decidable.not_not.mp cq61⟩]; decide)).symm.symm
                · rfl
            refine G.if_le (pc := 48) cx dX0_couldAllBeFined_48 (tgt := 57) (by decide) (fun cq48 => ?_) (fun cq48 => ?_)
            · skip
              have nq48 := Int32.not_lt.mpr cq48
              refine G.iload_n (pc := 57) cx dX0_couldAllBeFined_57 rfl 2 rfl ?_
              refine G.castS (st' := [.int (cPart z w p q k6), .ref (b + 2 + k6)]) (congrArg (fun q9 => ([.int q9, .ref (b + 2 + k6)] : List Value)) (show (p : Int32) = cPart z w p q k6 from by first | (unfold cPart; simp [*]; done))) ?_
              exact J58_2
            · skip
              have nq48 := Int32.not_le.mp cq48
              refine G.iload_n (pc := 51) cx dX0_couldAllBeFined_51 rfl 2 rfl ?_
              refine G.iconst (pc := 52) cx dX0_couldAllBeFined_52 (v := 1) (by decide) ?_
              refine G.iadd (pc := 53) cx dX0_couldAllBeFined_53 ?_
              refine G.goto (pc := 54) cx dX0_couldAllBeFined_54 (tgt := 58) (by decide) ?_
              refine G.castS (st' := [.int (cPart z w p q k6), .ref (b + 2 + k6)]) (congrArg (fun q9 => ([.int q9, .ref (b + 2 + k6)] : List Value)) (show (p + 1 : Int32) = cPart z w p q k6 from by first | (unfold cPart; simp [*]; done))) ?_
              exact J58_2
  refine G.castL (lv' := [(0, .ref b), (1, .int w), (2, .int p), (3, .int q), (4, .int q), (5, .int 0)]) [2, 3, 4, 5, 1, 0] rfl ?_
  refine G.lv0 (lv2 := [(0, .ref b), (1, .int w), (2, .int p), (3, .int q), (4, .int (cLo z w q 0)), (5, .int 0)]) (congrArg (fun q9 => ([(0, .ref b), (1, .int w), (2, .int p), (3, .int q), (4, .int q9), (5, .int 0)] : List (Nat × Value))) (show (q : Int32) = cLo z w q 0 from by rfl)) ?_
  refine G.lv0 (lv2 := [(0, .ref b), (1, .int w), (2, .int p), (3, .int q), (4, .int (cLo z w q 0)), (5, .int (nI 0))]) (congrArg (fun q9 => ([(0, .ref b), (1, .int w), (2, .int p), (3, .int q), (4, .int (cLo z w q 0)), (5, .int q9)] : List (Nat × Value))) (show (0 : Int32) = nI 0 from by rfl)) ?_
  exact L6_1 (N + 1) 0 (by omega) (by omega) (by rfl)
set_option maxHeartbeats 4000000 in
set_option maxRecDepth 100000 in
theorem c_X0_fineAll (l : Launch) (K : KT) (sz : Nat) (b : Nat) (z : Zt) (V : VW) (w : Int32) (x : Int32) (N : Nat) (hN : z 194 = nI N) (h16 : N ≤ 16) : Ct l K yX0_fineAll cX0_fineAll 7 (some .int) 4 [.ref b, .int w, .int x] (bw K b z V) sz (some (.int (if cNoFW z N w x < 0 then cNoFW z N w x else nI (zOfW z w N)))) (bw K b (if cNoFW z N w x < 0 then z else cFineW z N w x) V) sz 0 0 := by
  refine Ct.ofG (by decide) (Nat.le_of_ble_eq_true rfl) ?_
  intro p9 e9 s9 m9 a9 b9 t9 c9 cx hin9
  refine G.lv0 (lv2 := [(0, .ref b), (1, .int w), (2, .int x)]) rfl ?_
  have hB := zOfW_le z w N
  have hF : ∀ k, k ≤ N → cFineTo z w (x / nI (zOfW z w N)) (x - x / nI (zOfW z w N) * nI (zOfW z w N)) k 194 = nI N := fun k hk => (cFineTo_o z w _ _ (by omega) (by omega) k (fun q hq => by omega)).trans hN
  refine G.iload_n (pc := 0) cx dX0_fineAll_0 rfl 1 rfl ?_
  refine G.iconst (pc := 1) cx dX0_fineAll_1 (v := 0) (by decide) ?_
  refine G.iconst (pc := 2) cx dX0_fineAll_2 (v := 1) (by decide) ?_
  refine G.callSN0 (pc := 3) (rest := []) (st1 := [.int (b2 (0 ≤ w ∧ w ≤ 1))]) cx (c_X9_within l K sz w 0 1 (bw K b z V)) ok_X9_within dX0_fineAll_3 (by decide +kernel)  rfl (Nat.le_of_ble_eq_true rfl) ⟨Nat.le_of_ble_eq_true rfl, Nat.le_of_ble_eq_true rfl⟩ rfl ?_
  refine G.if_eqB (pc := 6) cx dX0_fineAll_6 (tgt := 20) (by decide) (fun cq6 => ?_) (fun cq6 => ?_)
  · skip
    refine G.ldc (pc := 20) cx dX0_fineAll_20 (v := (-1000001)) wm_ct_X0_84 ?_
    refine G.iret (pc := 22) cx rfl dX0_fineAll_22 ?_ ?_ rfl
    · refine congrArg (fun x => some (Value.int x)) ?_
      (try clear hin9); (try clear cx); (try clear hN); first | (simp [cNoFW, cFineW, *]; done) | (simp_all [cNoFW, cFineW]; done)
    · refine congrArg (fun x => bw K b x V) ?_
      (try clear hin9); (try clear cx); (try clear hN); first | (simp [cNoFW, cFineW, *]; done) | (simp_all [cNoFW, cFineW]; done)
  · skip
    refine G.iload_n (pc := 9) cx dX0_fineAll_9 rfl 2 rfl ?_
    refine G.iconst (pc := 10) cx dX0_fineAll_10 (v := 1) (by decide) ?_
    refine G.sipush (pc := 11) cx dX0_fineAll_11 (v := 999) (by decide) ?_
    refine G.callSN0 (pc := 14) (rest := []) (st1 := [.int (b2 (1 ≤ x ∧ x ≤ 999))]) cx (c_X9_within l K sz x 1 999 (bw K b z V)) ok_X9_within dX0_fineAll_14 (by decide +kernel)  rfl (Nat.le_of_ble_eq_true rfl) ⟨Nat.le_of_ble_eq_true rfl, Nat.le_of_ble_eq_true rfl⟩ rfl ?_
    refine G.if_neB (pc := 17) cx dX0_fineAll_17 (tgt := 23) (by decide) (fun cq17 => ?_) (fun cq17 => ?_)
    · skip
      refine G.aload_n (pc := 23) cx dX0_fineAll_23 rfl 0 rfl ?_
      refine G.iload_n (pc := 24) cx dX0_fineAll_24 rfl 1 rfl ?_
      refine G.callV0 (pc := 25) (rest := []) (st1 := [.int (nI (zOfW z w N))]) cx (c_X0_sizeOfWatch l K sz b z V w N (by assumption) (by omega)) ok_X0_sizeOfWatch dX0_fineAll_25 wm_ml_X0_174 rfl bw_b rfl rfl (Nat.le_of_ble_eq_true rfl) ⟨Nat.le_of_ble_eq_true rfl, Nat.le_of_ble_eq_true rfl⟩ rfl ?_
      refine G.istore_n (pc := 28) cx dX0_fineAll_28 rfl (by decide) rfl ?_
      refine G.iload_n (pc := 29) cx dX0_fineAll_29 rfl 0 rfl ?_
      refine G.if_gtN (pc := 30) cx (zOfW z w N) (by omega) dX0_fineAll_30 (tgt := 36) (by decide) (fun cq30 => ?_) (fun cq30 => ?_)
      · skip
        have hz0 : ¬ zOfW z w N = 0 := by omega
        have hne : ¬ nI (zOfW z w N) = 0 := nI_ne0 cq30 (by omega)
        refine G.iload_n (pc := 36) cx dX0_fineAll_36 rfl 3 rfl ?_
        refine G.iload_n (pc := 37) cx dX0_fineAll_37 rfl 0 rfl ?_
        refine G.idiv (pc := 38) cx dX0_fineAll_38 hne ?_
        refine G.istore (pc := 39) cx dX0_fineAll_39 (by decide) rfl ?_
        refine G.iload_n (pc := 41) cx dX0_fineAll_41 rfl 4 rfl ?_
        refine G.iload_n (pc := 42) cx dX0_fineAll_42 rfl 1 rfl ?_
        refine G.irem (pc := 43) cx dX0_fineAll_43 hne ?_
        refine G.istore (pc := 44) cx dX0_fineAll_44 (by decide) rfl ?_
        refine G.aload_n (pc := 46) cx dX0_fineAll_46 rfl 3 rfl ?_
        refine G.iload_n (pc := 47) cx dX0_fineAll_47 rfl 4 rfl ?_
        refine G.iload (pc := 48) cx dX0_fineAll_48 1 rfl ?_
        refine G.iload (pc := 50) cx dX0_fineAll_50 0 rfl ?_
        refine G.callV0 (pc := 52) (rest := []) (st1 := [.int (b2 (cCan z w (x / (nI (zOfW z w N))) (x - x / (nI (zOfW z w N)) * (nI (zOfW z w N))) N 0 = true))]) cx (c_X0_couldAllBeFined l K sz b z V w (x / (nI (zOfW z w N))) (x - x / (nI (zOfW z w N)) * (nI (zOfW z w N))) N (by assumption) (by omega)) ok_X0_couldAllBeFined dX0_fineAll_52 wm_ml_X0_177 rfl bw_b rfl rfl (Nat.le_of_ble_eq_true rfl) ⟨Nat.le_of_ble_eq_true rfl, Nat.le_of_ble_eq_true rfl⟩ rfl ?_
        refine G.if_neB (pc := 55) cx dX0_fineAll_55 (tgt := 61) (by decide) (fun cq55 => ?_) (fun cq55 => ?_)
        · skip
          refine G.iconst (pc := 61) cx dX0_fineAll_61 (v := 0) (by decide) ?_
          refine G.istore (pc := 62) cx dX0_fineAll_62 (by decide) rfl ?_
          have L64_1 : ∀ (f k64 : Nat), N - k64 < f → k64 ≤ N → G K p9 l e9 (rmL 4 0 0) s9 m9 a9 b9 t9 c9 (MQ b9 (QCt K (some (.int (if cNoFW z N w x < 0 then cNoFW z N w x else nI (zOfW z w N)))) (bw K b (if cNoFW z N w x < 0 then z else cFineW z N w x) V) sz) a9 s9 0 0 (kA K)) 7 (bw K b (cFineTo z w (x / nI (zOfW z w N)) (x - x / nI (zOfW z w N) * nI (zOfW z w N)) k64) V) sz 0 0 64 [(4, .int (x / (nI (zOfW z w N)))), (3, .int (nI (zOfW z w N))), (0, .ref b), (1, .int w), (2, .int x), (5, .int (cLo z w (x - x / nI (zOfW z w N) * nI (zOfW z w N)) k64)), (6, .int (nI k64))] [] := by
            intro f
            induction f with
            | zero => intro k64 h9; omega
            | succ f ih64 =>
              intro k64 h964 h864
              refine G.iload (pc := 64) cx dX0_fineAll_64 6 rfl ?_
              refine G.aload_n (pc := 66) cx dX0_fineAll_66 rfl 2 rfl ?_
              refine G.getB (pc := 67) cx dX0_fineAll_67 5 wm_fl_X0_63 (by decide) (congrArg (fun x => some (Value.int x)) (hF _ (by omega))) ?_
              refine G.icmp_geN (pc := 70) cx k64 N (by omega) (by omega) dX0_fineAll_70 (tgt := 133) (by decide) (fun cq70 => ?_) (fun cq70 => ?_)
              · skip
                have nq70 := Nat.not_lt.mpr cq70
                have ex64 : k64 = N := by omega
                try rw [ex64]
                refine G.iload_n (pc := 133) cx dX0_fineAll_133 rfl 1 rfl ?_
                refine G.iret (pc := 134) cx rfl dX0_fineAll_134 ?_ ?_ rfl
                · refine congrArg (fun x => some (Value.int x)) ?_
                  (try clear L64_1); (try clear ih64); (try clear hin9); (try clear cx); (try clear hN); first | (simp [cNoFW, cFineW, *]; done) | (simp_all [cNoFW, cFineW]; done)
                · refine congrArg (fun x => bw K b x V) ?_
                  (try clear L64_1); (try clear ih64); (try clear hin9); (try clear cx); (try clear hN); first | (simp [cNoFW, cFineW, *]; done) | (simp_all [cNoFW, cFineW]; done)
              · skip
                have nq70 := Nat.not_le.mpr cq70
                have hw1 : cFineTo z w (x / nI (zOfW z w N)) (x - x / nI (zOfW z w N) * nI (zOfW z w N)) k64 (10 * k64 + 1) = z (10 * k64 + 1) := cFineTo_o z w _ _ (by omega) (by omega) k64 (fun q hq => by omega)
                have hw2 : cFineTo z w (x / nI (zOfW z w N)) (x - x / nI (zOfW z w N) * nI (zOfW z w N)) k64 (10 * k64 + 2) = z (10 * k64 + 2) := cFineTo_o z w _ _ (by omega) (by omega) k64 (fun q hq => by omega)
                refine G.iload (pc := 73) cx dX0_fineAll_73 6 rfl ?_
                refine G.aload_n (pc := 75) cx dX0_fineAll_75 rfl 2 rfl ?_
                refine G.getB (pc := 76) cx dX0_fineAll_76 0 wm_fl_X0_11 (by decide) rfl ?_
                refine G.alenV (pc := 79) cx dX0_fineAll_79 1 rfl bw_crew (v := 16) rfl ?_
                refine G.icmp_geN (pc := 80) cx k64 16 (by omega) (by omega) dX0_fineAll_80 (tgt := 133) (by decide) (fun cq80 => ?_) (fun cq80 => ?_)
                · skip
                  exact absurd cq80 (by omega)
                · skip
                  have nq80 := Nat.not_le.mpr cq80
                  refine G.aload_n (pc := 83) cx dX0_fineAll_83 rfl 2 rfl ?_
                  refine G.getB (pc := 84) cx dX0_fineAll_84 0 wm_fl_X0_11 (by decide) rfl ?_
                  refine G.iload (pc := 87) cx dX0_fineAll_87 6 rfl ?_
                  refine G.aaldV (pc := 89) cx dX0_fineAll_89 1 rfl bw_crew (j := k64) rfl (by omega) (by decide) rfl ?_
                  refine G.iload_n (pc := 90) cx dX0_fineAll_90 rfl 3 rfl ?_
                  refine G.callV0 (pc := 91) (rest := []) (st1 := [.int (b2 ((cFineTo z w (x / nI (zOfW z w N)) (x - x / nI (zOfW z w N) * nI (zOfW z w N)) k64) (10 * k64 + 1) = w ∧ ¬ (cFineTo z w (x / nI (zOfW z w N)) (x - x / nI (zOfW z w N) * nI (zOfW z w N)) k64) (10 * k64 + 2) = 2))]) cx (c_X6_isOfWatch l K sz b (cFineTo z w (x / nI (zOfW z w N)) (x - x / nI (zOfW z w N) * nI (zOfW z w N)) k64) V k64 w (by omega)) ok_X6_isOfWatch dX0_fineAll_91 wm_ml_X0_180 rfl (bw_s (by omega)) rfl rfl (Nat.le_of_ble_eq_true rfl) ⟨Nat.le_of_ble_eq_true rfl, Nat.le_of_ble_eq_true rfl⟩ rfl ?_
                  refine G.if_eqB (pc := 94) cx dX0_fineAll_94 (tgt := 127) (by decide) (fun cq94 => ?_) (fun cq94 => ?_)
                  · skip
                    refine G.iinc (pc := 127) cx dX0_fineAll_127 (v := nI (k64 + 1)) (k := 6) rfl (nI_add k64 1) (by decide) rfl ?_
                    refine G.goto (pc := 130) cx dX0_fineAll_130 (tgt := 64) (by decide) ?_
                    refine G.cast (V' := (bw K b (cFineTo z w (x / nI (zOfW z w N)) (x - x / nI (zOfW z w N) * nI (zOfW z w N)) (k64 + 1)) V)) (congrArg (fun q9 => bw K b q9 V) (by first | (simp only [cFineTo]; rw [if_pos cq94]; done) | (simp only [cFineTo]; rw [if_neg cq94]; done) | (rw [hw1, hw2] at cq94; simp only [cLo]; rw [if_pos cq94]; done) | (rw [hw1, hw2] at cq94; simp only [cLo]; rw [if_neg cq94]; done))) ?_
                    refine G.castL (lv' := [(4, .int (x / (nI (zOfW z w N)))), (3, .int (nI (zOfW z w N))), (0, .ref b), (1, .int w), (2, .int x), (5, .int (cLo z w (x - x / nI (zOfW z w N) * nI (zOfW z w N)) k64)), (6, .int (nI (k64 + 1)))]) [1, 2, 3, 4, 5, 6, 0] rfl ?_
                    refine G.lv0 (lv2 := [(4, .int (x / (nI (zOfW z w N)))), (3, .int (nI (zOfW z w N))), (0, .ref b), (1, .int w), (2, .int x), (5, .int (cLo z w (x - x / nI (zOfW z w N) * nI (zOfW z w N)) (k64 + 1))), (6, .int (nI (k64 + 1)))]) (congrArg (fun q9 => ([(4, .int (x / (nI (zOfW z w N)))), (3, .int (nI (zOfW z w N))), (0, .ref b), (1, .int w), (2, .int x), (5, .int q9), (6, .int (nI (k64 + 1)))] : List (Nat × Value))) (show (cLo z w (x - x / nI (zOfW z w N) * nI (zOfW z w N)) k64 : Int32) = cLo z w (x - x / nI (zOfW z w N) * nI (zOfW z w N)) (k64 + 1) from by first | (simp only [cFineTo]; rw [if_pos cq94]; done) | (simp only [cFineTo]; rw [if_neg cq94]; done) | (rw [hw1, hw2] at cq94; simp only [cLo]; rw [if_pos cq94]; done) | (rw [hw1, hw2] at cq94; simp only [cLo]; rw [if_neg cq94]; done))) ?_
                    exact ih64 (k64 + 1) (by omega) (by omega)
                  · skip
                    refine G.aload_n (pc := 97) cx dX0_fineAll_97 rfl 2 rfl ?_
                    refine G.iload (pc := 98) cx dX0_fineAll_98 6 rfl ?_
                    refine G.aload_n (pc := 100) cx dX0_fineAll_100 rfl 2 rfl ?_
                    refine G.getB (pc := 101) cx dX0_fineAll_101 0 wm_fl_X0_11 (by decide) rfl ?_
                    refine G.iload (pc := 104) cx dX0_fineAll_104 6 rfl ?_
                    refine G.aaldV (pc := 106) cx dX0_fineAll_106 1 rfl bw_crew (j := k64) rfl (by omega) (by decide) rfl ?_
                    refine G.iload (pc := 107) cx dX0_fineAll_107 5 rfl ?_
                    have J121_2 : G K p9 l e9 (rmL 4 0 0) s9 m9 a9 b9 t9 c9 (MQ b9 (QCt K (some (.int (if cNoFW z N w x < 0 then cNoFW z N w x else nI (zOfW z w N)))) (bw K b (if cNoFW z N w x < 0 then z else cFineW z N w x) V) sz) a9 s9 0 0 (kA K)) 7 (bw K b (cFineTo z w (x / nI (zOfW z w N)) (x - x / nI (zOfW z w N) * nI (zOfW z w N)) k64) V) sz 0 0 121 [(0, .ref b), (1, .int w), (2, .int x), (3, .int (nI (zOfW z w N))), (4, .int (x / (nI (zOfW z w N)))), (5, .int (cLo z w (x - x / nI (zOfW z w N) * nI (zOfW z w N)) k64)), (6, .int (nI k64))] [.int (if 0 < cLo z w (x - x / nI (zOfW z w N) * nI (zOfW z w N)) k64 then (x / nI (zOfW z w N)) + 1 else (x / nI (zOfW z w N))), .ref (b + 2 + k64), .int (nI k64), .ref b] := by
                      refine G.callV0 (pc := 121) (rest := []) (st1 := []) cx (c_X0_chargeFine l K sz b (cFineTo z w (x / nI (zOfW z w N)) (x - x / nI (zOfW z w N) * nI (zOfW z w N)) k64) V k64 (if 0 < cLo z w (x - x / nI (zOfW z w N) * nI (zOfW z w N)) k64 then (x / nI (zOfW z w N)) + 1 else (x / nI (zOfW z w N))) (by omega)) ok_X0_chargeFine dX0_fineAll_121 wm_ml_X0_166 rfl bw_b rfl rfl (Nat.le_of_ble_eq_true rfl) ⟨Nat.le_of_ble_eq_true rfl, Nat.le_of_ble_eq_true rfl⟩ rfl ?_
                      refine G.iinc (pc := 124) cx dX0_fineAll_124 (v := (cLo z w (x - x / nI (zOfW z w N) * nI (zOfW z w N)) k64) - 1) (k := 5) rfl (iinc_m1 _) (by decide) rfl ?_
                      refine G.iinc (pc := 127) cx dX0_fineAll_127 (v := nI (k64 + 1)) (k := 6) rfl (nI_add k64 1) (by decide) rfl ?_
                      refine G.goto (pc := 130) cx dX0_fineAll_130 (tgt := 64) (by decide) ?_
                      refine G.cast (V' := (bw K b (cFineTo z w (x / nI (zOfW z w N)) (x - x / nI (zOfW z w N) * nI (zOfW z w N)) (k64 + 1)) V)) (congrArg (fun q9 => bw K b q9 V) (by first | (simp only [cFineTo]; rw [if_pos cq94]; done) | (simp only [cFineTo]; rw [if_neg cq94]; done) | (rw [hw1, hw2] at cq94; simp only [cLo]; rw [if_pos cq94]; done) | (rw [hw1, hw2] at cq94; simp only [cLo]; rw [if_neg cq94]; done))) ?_
                      refine G.castL (lv' := [(4, .int (x / (nI (zOfW z w N)))), (3, .int (nI (zOfW z w N))), (0, .ref b), (1, .int w), (2, .int x), (5, .int ((cLo z w (x - x / nI (zOfW z w N) * nI (zOfW z w N)) k64) - 1)), (6, .int (nI (k64 + 1)))]) [6, 5, 2, 3, 4, 1, 0] rfl ?_
                      refine G.lv0 (lv2 := [(4, .int (x / (nI (zOfW z w N)))), (3, .int (nI (zOfW z w N))), (0, .ref b), (1, .int w), (2, .int x), (5, .int (cLo z w (x - x / nI (zOfW z w N) * nI (zOfW z w N)) (k64 + 1))), (6, .int (nI (k64 + 1)))]) (congrArg (fun q9 => ([(4, .int (x / (nI (zOfW z w N)))), (3, .int (nI (zOfW z w N))), (0, .ref b), (1, .int w), (2, .int x), (5, .int q9), (6, .int (nI (k64 + 1)))] : List (Nat × Value))) (show ((cLo z w (x - x / nI (zOfW z w N) * nI (zOfW z w N)) k64) - 1 : Int32) = cLo z w (x - x / nI (zOfW z w N) * nI (zOfW z w N)) (k64 + 1) from by first | (simp only [cFineTo]; rw [if_pos cq94]; done) | (simp only [cFineTo]; rw [if_neg cq94]; done) | (rw [hw1, hw2] at cq94; simp only [cLo]; rw [if_pos cq94]; done) | (rw [hw1, hw2] at cq94; simp only [cLo]; rw [if_neg cq94]; done))) ?_
                      exact ih64 (k64 + 1) (by omega) (by omega)
                    refine G.if_le (pc := 109) cx dX0_fineAll_109 (tgt := 119) (by decide) (fun cq109 => ?_) (fun cq109 => ?_)
                    · skip
                      have nq109 := Int32.not_lt.mpr cq109
                      refine G.iload (pc := 119) cx dX0_fineAll_119 0 rfl ?_
                      refine G.castS (st' := [.int (if 0 < cLo z w (x - x / nI (zOfW z w N) * nI (zOfW z w N)) k64 then (x / nI (zOfW z w N)) + 1 else (x / nI (zOfW z w N))), .ref (b + 2 + k64), .int (nI k64), .ref b]) (congrArg (fun q9 => ([.int q9, .ref (b + 2 + k64), .int (nI k64), .ref b] : List Value)) (show (x / (nI (zOfW z w N)) : Int32) = if 0 < cLo z w (x - x / nI (zOfW z w N) * nI (zOfW z w N)) k64 then (x / nI (zOfW z w N)) + 1 else (x / nI (zOfW z w N)) from by simp [*])) ?_
                      refine G.castL (lv' := [(0, .ref b), (1, .int w), (2, .int x), (3, .int (nI (zOfW z w N))), (4, .int (x / (nI (zOfW z w N)))), (5, .int (cLo z w (x - x / nI (zOfW z w N) * nI (zOfW z w N)) k64)), (6, .int (nI k64))]) [2, 3, 4, 1, 0, 5, 6] rfl ?_
                      exact J121_2
                    · skip
                      have nq109 := Int32.not_le.mp cq109
                      refine G.iload (pc := 112) cx dX0_fineAll_112 0 rfl ?_
                      refine G.iconst (pc := 114) cx dX0_fineAll_114 (v := 1) (by decide) ?_
                      refine G.iadd (pc := 115) cx dX0_fineAll_115 ?_
                      refine G.goto (pc := 116) cx dX0_fineAll_116 (tgt := 121) (by decide) ?_
                      refine G.castS (st' := [.int (if 0 < cLo z w (x - x / nI (zOfW z w N) * nI (zOfW z w N)) k64 then (x / nI (zOfW z w N)) + 1 else (x / nI (zOfW z w N))), .ref (b + 2 + k64), .int (nI k64), .ref b]) (congrArg (fun q9 => ([.int q9, .ref (b + 2 + k64), .int (nI k64), .ref b] : List Value)) (show ((x / (nI (zOfW z w N))) + 1 : Int32) = if 0 < cLo z w (x - x / nI (zOfW z w N) * nI (zOfW z w N)) k64 then (x / nI (zOfW z w N)) + 1 else (x / nI (zOfW z w N)) from by simp [*])) ?_
                      refine G.castL (lv' := [(0, .ref b), (1, .int w), (2, .int x), (3, .int (nI (zOfW z w N))), (4, .int (x / (nI (zOfW z w N)))), (5, .int (cLo z w (x - x / nI (zOfW z w N) * nI (zOfW z w N)) k64)), (6, .int (nI k64))]) [2, 3, 4, 1, 0, 5, 6] rfl ?_
                      exact J121_2
          refine G.cast (V' := (bw K b (cFineTo z w (x / nI (zOfW z w N)) (x - x / nI (zOfW z w N) * nI (zOfW z w N)) 0) V)) (congrArg (fun q9 => bw K b q9 V) (by rfl)) ?_
          refine G.castL (lv' := [(4, .int (x / (nI (zOfW z w N)))), (3, .int (nI (zOfW z w N))), (0, .ref b), (1, .int w), (2, .int x), (5, .int (x - x / (nI (zOfW z w N)) * (nI (zOfW z w N)))), (6, .int 0)]) [2, 3, 4, 5, 6, 1, 0] rfl ?_
          refine G.lv0 (lv2 := [(4, .int (x / (nI (zOfW z w N)))), (3, .int (nI (zOfW z w N))), (0, .ref b), (1, .int w), (2, .int x), (5, .int (cLo z w (x - x / nI (zOfW z w N) * nI (zOfW z w N)) 0)), (6, .int 0)]) (congrArg (fun q9 => ([(4, .int (x / (nI (zOfW z w N)))), (3, .int (nI (zOfW z w N))), (0, .ref b), (1, .int w), (2, .int x), (5, .int q9), (6, .int 0)] : List (Nat × Value))) (show (x - x / (nI (zOfW z w N)) * (nI (zOfW z w N)) : Int32) = cLo z w (x - x / nI (zOfW z w N) * nI (zOfW z w N)) 0 from by rfl)) ?_
          refine G.lv0 (lv2 := [(4, .int (x / (nI (zOfW z w N)))), (3, .int (nI (zOfW z w N))), (0, .ref b), (1, .int w), (2, .int x), (5, .int (cLo z w (x - x / nI (zOfW z w N) * nI (zOfW z w N)) 0)), (6, .int (nI 0))]) (congrArg (fun q9 => ([(4, .int (x / (nI (zOfW z w N)))), (3, .int (nI (zOfW z w N))), (0, .ref b), (1, .int w), (2, .int x), (5, .int (cLo z w (x - x / nI (zOfW z w N) * nI (zOfW z w N)) 0)), (6, .int q9)] : List (Nat × Value))) (show (0 : Int32) = nI 0 from by rfl)) ?_
          exact L64_1 (N + 1) 0 (by omega) (by omega)
        · skip
          refine G.ldc (pc := 58) cx dX0_fineAll_58 (v := (-1000002)) wm_ct_X0_85 ?_
          refine G.iret (pc := 60) cx rfl dX0_fineAll_60 ?_ ?_ rfl
          · refine congrArg (fun x => some (Value.int x)) ?_
            (try clear J121_2); (try clear L64_1); (try clear ih64); (try clear hin9); (try clear cx); (try clear hN); first | (simp [cNoFW, cFineW, *]; done) | (simp_all [cNoFW, cFineW]; done)
          · refine congrArg (fun x => bw K b x V) ?_
            (try clear J121_2); (try clear L64_1); (try clear ih64); (try clear hin9); (try clear cx); (try clear hN); first | (simp [cNoFW, cFineW, *]; done) | (simp_all [cNoFW, cFineW]; done)
      · skip
        refine G.ldc (pc := 33) cx dX0_fineAll_33 (v := (-1000002)) wm_ct_X0_85 ?_
        refine G.iret (pc := 35) cx rfl dX0_fineAll_35 ?_ ?_ rfl
        · refine congrArg (fun x => some (Value.int x)) ?_
          (try clear J121_2); (try clear L64_1); (try clear ih64); (try clear hin9); (try clear cx); (try clear hN); first | (simp [cNoFW, cFineW, *]; done) | (simp_all [cNoFW, cFineW]; done)
        · refine congrArg (fun x => bw K b x V) ?_
          (try clear J121_2); (try clear L64_1); (try clear ih64); (try clear hin9); (try clear cx); (try clear hN); first | (simp [cNoFW, cFineW, *]; done) | (simp_all [cNoFW, cFineW]; done)
    · skip
      refine G.ldc (pc := 20) cx dX0_fineAll_20 (v := (-1000001)) wm_ct_X0_84 ?_
      refine G.iret (pc := 22) cx rfl dX0_fineAll_22 ?_ ?_ rfl
      · refine congrArg (fun x => some (Value.int x)) ?_
        (try clear J121_2); (try clear L64_1); (try clear ih64); (try clear hin9); (try clear cx); (try clear hN); first | (simp [cNoFW, cFineW, *]; done) | (simp_all [cNoFW, cFineW]; done)
      · refine congrArg (fun x => bw K b x V) ?_
        (try clear J121_2); (try clear L64_1); (try clear ih64); (try clear hin9); (try clear cx); (try clear hN); first | (simp [cNoFW, cFineW, *]; done) | (simp_all [cNoFW, cFineW]; done)
set_option maxHeartbeats 4000000 in
set_option maxRecDepth 100000 in
theorem c_X0_wouldBePaid (l : Launch) (K : KT) (sz : Nat) (b : Nat) (z : Zt) (V : VW) (N : Nat) (hN : z 194 = nI N) (h16 : N ≤ 16) : Ct l K yX0_wouldBePaid cX0_wouldBePaid 3 (some .int) 2 [.ref b] (bw K b z V) sz (some (.int (cPaid z N))) (bw K b z V) sz 0 0 := by
  refine Ct.ofG (by decide) (Nat.le_of_ble_eq_true rfl) ?_
  intro p9 e9 s9 m9 a9 b9 t9 c9 cx hin9
  refine G.lv0 (lv2 := [(0, .ref b)]) rfl ?_
  refine G.iconst (pc := 0) cx dX0_wouldBePaid_0 (v := 0) (by decide) ?_
  refine G.istore_n (pc := 1) cx dX0_wouldBePaid_1 rfl (by decide) rfl ?_
  refine G.iconst (pc := 2) cx dX0_wouldBePaid_2 (v := 0) (by decide) ?_
  refine G.istore_n (pc := 3) cx dX0_wouldBePaid_3 rfl (by decide) rfl ?_
  have L4_1 : ∀ (f k4 : Nat), N - k4 < f → k4 ≤ N → G K p9 l e9 (rmL 2 0 0) s9 m9 a9 b9 t9 c9 (MQ b9 (QCt K (some (.int (cPaid z N))) (bw K b z V) sz) a9 s9 0 0 (kA K)) 3 (bw K b z V) sz 0 0 4 [(0, .ref b), (1, .int (cPaid z k4)), (2, .int (nI k4))] [] := by
    intro f
    induction f with
    | zero => intro k4 h9; omega
    | succ f ih4 =>
      intro k4 h94 h84
      refine G.iload_n (pc := 4) cx dX0_wouldBePaid_4 rfl 2 rfl ?_
      refine G.aload_n (pc := 5) cx dX0_wouldBePaid_5 rfl 0 rfl ?_
      refine G.getB (pc := 6) cx dX0_wouldBePaid_6 5 wm_fl_X0_63 (by decide) (congrArg (fun x => some (Value.int x)) (hN)) ?_
      refine G.icmp_geN (pc := 9) cx k4 N (by omega) (by omega) dX0_wouldBePaid_9 (tgt := 43) (by decide) (fun cq9 => ?_) (fun cq9 => ?_)
      · skip
        have nq9 := Nat.not_lt.mpr cq9
        have ex4 : k4 = N := by omega
        try rw [ex4]
        refine G.iload_n (pc := 43) cx dX0_wouldBePaid_43 rfl 1 rfl ?_
        refine G.iret (pc := 44) cx rfl dX0_wouldBePaid_44 ?_ ?_ rfl
        · rfl
        · rfl
      · skip
        have nq9 := Nat.not_le.mpr cq9
        refine G.iload_n (pc := 12) cx dX0_wouldBePaid_12 rfl 2 rfl ?_
        refine G.aload_n (pc := 13) cx dX0_wouldBePaid_13 rfl 0 rfl ?_
        refine G.getB (pc := 14) cx dX0_wouldBePaid_14 0 wm_fl_X0_11 (by decide) rfl ?_
        refine G.alenV (pc := 17) cx dX0_wouldBePaid_17 1 rfl bw_crew (v := 16) rfl ?_
        refine G.icmp_geN (pc := 18) cx k4 16 (by omega) (by omega) dX0_wouldBePaid_18 (tgt := 43) (by decide) (fun cq18 => ?_) (fun cq18 => ?_)
        · skip
          exact absurd cq18 (by omega)
        · skip
          have nq18 := Nat.not_le.mpr cq18
          refine G.iload_n (pc := 21) cx dX0_wouldBePaid_21 rfl 1 rfl ?_
          refine G.iconst (pc := 22) cx dX0_wouldBePaid_22 (v := 0) (by decide) ?_
          refine G.aload_n (pc := 23) cx dX0_wouldBePaid_23 rfl 0 rfl ?_
          refine G.getB (pc := 24) cx dX0_wouldBePaid_24 0 wm_fl_X0_11 (by decide) rfl ?_
          refine G.iload_n (pc := 27) cx dX0_wouldBePaid_27 rfl 2 rfl ?_
          refine G.aaldV (pc := 28) cx dX0_wouldBePaid_28 1 rfl bw_crew (j := k4) rfl (by omega) (by decide) rfl ?_
          refine G.callV0 (pc := 29) (rest := [.int 0, .int (cPaid z k4)]) (st1 := [.int (cBal z k4), .int 0, .int (cPaid z k4)]) cx (c_X6_balance l K sz b z V k4 (by omega)) ok_X6_balance dX0_wouldBePaid_29 wm_ml_X0_139 rfl (bw_s (by omega)) rfl rfl (Nat.le_of_ble_eq_true rfl) ⟨Nat.le_of_ble_eq_true rfl, Nat.le_of_ble_eq_true rfl⟩ rfl ?_
          refine G.mmax (pc := 32) cx dX0_wouldBePaid_32 wm_ml_X0_231 ⟨Nat.le_of_ble_eq_true rfl, Nat.le_of_ble_eq_true rfl⟩ (Nat.le_of_ble_eq_true rfl) ?_
          refine G.iadd (pc := 35) cx dX0_wouldBePaid_35 ?_
          refine G.istore_n (pc := 36) cx dX0_wouldBePaid_36 rfl (by decide) rfl ?_
          refine G.iinc (pc := 37) cx dX0_wouldBePaid_37 (v := nI (k4 + 1)) (k := 2) rfl (nI_add k4 1) (by decide) rfl ?_
          refine G.goto (pc := 40) cx dX0_wouldBePaid_40 (tgt := 4) (by decide) ?_
          refine G.castL (lv' := [(0, .ref b), (1, .int ((cPaid z k4) + (if 0 < (cBal z k4) then (cBal z k4) else 0))), (2, .int (nI (k4 + 1)))]) [2, 1, 0] rfl ?_
          refine G.lv0 (lv2 := [(0, .ref b), (1, .int (cPaid z (k4 + 1))), (2, .int (nI (k4 + 1)))]) (congrArg (fun q9 => ([(0, .ref b), (1, .int q9), (2, .int (nI (k4 + 1)))] : List (Nat × Value))) (show ((cPaid z k4) + (if 0 < (cBal z k4) then (cBal z k4) else 0) : Int32) = cPaid z (k4 + 1) from by rfl)) ?_
          exact ih4 (k4 + 1) (by omega) (by omega)
  refine G.castL (lv' := [(0, .ref b), (1, .int 0), (2, .int 0)]) [2, 1, 0] rfl ?_
  refine G.lv0 (lv2 := [(0, .ref b), (1, .int (cPaid z 0)), (2, .int 0)]) (congrArg (fun q9 => ([(0, .ref b), (1, .int q9), (2, .int 0)] : List (Nat × Value))) (show (0 : Int32) = cPaid z 0 from by rfl)) ?_
  refine G.lv0 (lv2 := [(0, .ref b), (1, .int (cPaid z 0)), (2, .int (nI 0))]) (congrArg (fun q9 => ([(0, .ref b), (1, .int (cPaid z 0)), (2, .int q9)] : List (Nat × Value))) (show (0 : Int32) = nI 0 from by rfl)) ?_
  exact L4_1 (N + 1) 0 (by omega) (by omega)
set_option maxHeartbeats 4000000 in
set_option maxRecDepth 100000 in
theorem c_X0_debtsTogether (l : Launch) (K : KT) (sz : Nat) (b : Nat) (z : Zt) (V : VW) (N : Nat) (hN : z 194 = nI N) (h16 : N ≤ 16) : Ct l K yX0_debtsTogether cX0_debtsTogether 3 (some .int) 2 [.ref b] (bw K b z V) sz (some (.int (cDebt z N))) (bw K b z V) sz 0 0 := by
  refine Ct.ofG (by decide) (Nat.le_of_ble_eq_true rfl) ?_
  intro p9 e9 s9 m9 a9 b9 t9 c9 cx hin9
  refine G.lv0 (lv2 := [(0, .ref b)]) rfl ?_
  refine G.iconst (pc := 0) cx dX0_debtsTogether_0 (v := 0) (by decide) ?_
  refine G.istore_n (pc := 1) cx dX0_debtsTogether_1 rfl (by decide) rfl ?_
  refine G.iconst (pc := 2) cx dX0_debtsTogether_2 (v := 0) (by decide) ?_
  refine G.istore_n (pc := 3) cx dX0_debtsTogether_3 rfl (by decide) rfl ?_
  have L4_1 : ∀ (f k4 : Nat), N - k4 < f → k4 ≤ N → G K p9 l e9 (rmL 2 0 0) s9 m9 a9 b9 t9 c9 (MQ b9 (QCt K (some (.int (cDebt z N))) (bw K b z V) sz) a9 s9 0 0 (kA K)) 3 (bw K b z V) sz 0 0 4 [(0, .ref b), (1, .int (cDebt z k4)), (2, .int (nI k4))] [] := by
    intro f
    induction f with
    | zero => intro k4 h9; omega
    | succ f ih4 =>
      intro k4 h94 h84
      refine G.iload_n (pc := 4) cx dX0_debtsTogether_4 rfl 2 rfl ?_
      refine G.aload_n (pc := 5) cx dX0_debtsTogether_5 rfl 0 rfl ?_
      refine G.getB (pc := 6) cx dX0_debtsTogether_6 5 wm_fl_X0_63 (by decide) (congrArg (fun x => some (Value.int x)) (hN)) ?_
      refine G.icmp_geN (pc := 9) cx k4 N (by omega) (by omega) dX0_debtsTogether_9 (tgt := 44) (by decide) (fun cq9 => ?_) (fun cq9 => ?_)
      · skip
        have nq9 := Nat.not_lt.mpr cq9
        have ex4 : k4 = N := by omega
        try rw [ex4]
        refine G.iload_n (pc := 44) cx dX0_debtsTogether_44 rfl 1 rfl ?_
        refine G.iret (pc := 45) cx rfl dX0_debtsTogether_45 ?_ ?_ rfl
        · rfl
        · rfl
      · skip
        have nq9 := Nat.not_le.mpr cq9
        refine G.iload_n (pc := 12) cx dX0_debtsTogether_12 rfl 2 rfl ?_
        refine G.aload_n (pc := 13) cx dX0_debtsTogether_13 rfl 0 rfl ?_
        refine G.getB (pc := 14) cx dX0_debtsTogether_14 0 wm_fl_X0_11 (by decide) rfl ?_
        refine G.alenV (pc := 17) cx dX0_debtsTogether_17 1 rfl bw_crew (v := 16) rfl ?_
        refine G.icmp_geN (pc := 18) cx k4 16 (by omega) (by omega) dX0_debtsTogether_18 (tgt := 44) (by decide) (fun cq18 => ?_) (fun cq18 => ?_)
        · skip
          exact absurd cq18 (by omega)
        · skip
          have nq18 := Nat.not_le.mpr cq18
          refine G.iload_n (pc := 21) cx dX0_debtsTogether_21 rfl 1 rfl ?_
          refine G.iconst (pc := 22) cx dX0_debtsTogether_22 (v := 0) (by decide) ?_
          refine G.aload_n (pc := 23) cx dX0_debtsTogether_23 rfl 0 rfl ?_
          refine G.getB (pc := 24) cx dX0_debtsTogether_24 0 wm_fl_X0_11 (by decide) rfl ?_
          refine G.iload_n (pc := 27) cx dX0_debtsTogether_27 rfl 2 rfl ?_
          refine G.aaldV (pc := 28) cx dX0_debtsTogether_28 1 rfl bw_crew (j := k4) rfl (by omega) (by decide) rfl ?_
          refine G.callV0 (pc := 29) (rest := [.int 0, .int (cDebt z k4)]) (st1 := [.int (cBal z k4), .int 0, .int (cDebt z k4)]) cx (c_X6_balance l K sz b z V k4 (by omega)) ok_X6_balance dX0_debtsTogether_29 wm_ml_X0_139 rfl (bw_s (by omega)) rfl rfl (Nat.le_of_ble_eq_true rfl) ⟨Nat.le_of_ble_eq_true rfl, Nat.le_of_ble_eq_true rfl⟩ rfl ?_
          refine G.ineg (pc := 32) cx dX0_debtsTogether_32 ?_
          refine G.mmax (pc := 33) cx dX0_debtsTogether_33 wm_ml_X0_231 ⟨Nat.le_of_ble_eq_true rfl, Nat.le_of_ble_eq_true rfl⟩ (Nat.le_of_ble_eq_true rfl) ?_
          refine G.iadd (pc := 36) cx dX0_debtsTogether_36 ?_
          refine G.istore_n (pc := 37) cx dX0_debtsTogether_37 rfl (by decide) rfl ?_
          refine G.iinc (pc := 38) cx dX0_debtsTogether_38 (v := nI (k4 + 1)) (k := 2) rfl (nI_add k4 1) (by decide) rfl ?_
          refine G.goto (pc := 41) cx dX0_debtsTogether_41 (tgt := 4) (by decide) ?_
          refine G.castL (lv' := [(0, .ref b), (1, .int ((cDebt z k4) + (if 0 < (-(cBal z k4)) then (-(cBal z k4)) else 0))), (2, .int (nI (k4 + 1)))]) [2, 1, 0] rfl ?_
          refine G.lv0 (lv2 := [(0, .ref b), (1, .int (cDebt z (k4 + 1))), (2, .int (nI (k4 + 1)))]) (congrArg (fun q9 => ([(0, .ref b), (1, .int q9), (2, .int (nI (k4 + 1)))] : List (Nat × Value))) (show ((cDebt z k4) + (if 0 < (-(cBal z k4)) then (-(cBal z k4)) else 0) : Int32) = cDebt z (k4 + 1) from by rfl)) ?_
          exact ih4 (k4 + 1) (by omega) (by omega)
  refine G.castL (lv' := [(0, .ref b), (1, .int 0), (2, .int 0)]) [2, 1, 0] rfl ?_
  refine G.lv0 (lv2 := [(0, .ref b), (1, .int (cDebt z 0)), (2, .int 0)]) (congrArg (fun q9 => ([(0, .ref b), (1, .int q9), (2, .int 0)] : List (Nat × Value))) (show (0 : Int32) = cDebt z 0 from by rfl)) ?_
  refine G.lv0 (lv2 := [(0, .ref b), (1, .int (cDebt z 0)), (2, .int (nI 0))]) (congrArg (fun q9 => ([(0, .ref b), (1, .int (cDebt z 0)), (2, .int q9)] : List (Nat × Value))) (show (0 : Int32) = nI 0 from by rfl)) ?_
  exact L4_1 (N + 1) 0 (by omega) (by omega)
set_option maxHeartbeats 4000000 in
set_option maxRecDepth 100000 in
theorem c_X0_setOfDebtors (l : Launch) (K : KT) (sz : Nat) (b : Nat) (z : Zt) (V : VW) (N : Nat) (hN : z 194 = nI N) (h16 : N ≤ 16) : Ct l K yX0_setOfDebtors cX0_setOfDebtors 3 (some .int) 2 [.ref b] (bw K b z V) sz (some (.int (cDSet z N))) (bw K b z V) sz 0 0 := by
  refine Ct.ofG (by decide) (Nat.le_of_ble_eq_true rfl) ?_
  intro p9 e9 s9 m9 a9 b9 t9 c9 cx hin9
  refine G.lv0 (lv2 := [(0, .ref b)]) rfl ?_
  refine G.iconst (pc := 0) cx dX0_setOfDebtors_0 (v := 0) (by decide) ?_
  refine G.istore_n (pc := 1) cx dX0_setOfDebtors_1 rfl (by decide) rfl ?_
  refine G.iconst (pc := 2) cx dX0_setOfDebtors_2 (v := 0) (by decide) ?_
  refine G.istore_n (pc := 3) cx dX0_setOfDebtors_3 rfl (by decide) rfl ?_
  have L4_1 : ∀ (f k4 : Nat), N - k4 < f → k4 ≤ N → G K p9 l e9 (rmL 2 0 0) s9 m9 a9 b9 t9 c9 (MQ b9 (QCt K (some (.int (cDSet z N))) (bw K b z V) sz) a9 s9 0 0 (kA K)) 3 (bw K b z V) sz 0 0 4 [(0, .ref b), (1, .int (cDSet z k4)), (2, .int (nI k4))] [] := by
    intro f
    induction f with
    | zero => intro k4 h9; omega
    | succ f ih4 =>
      intro k4 h94 h84
      refine G.iload_n (pc := 4) cx dX0_setOfDebtors_4 rfl 2 rfl ?_
      refine G.aload_n (pc := 5) cx dX0_setOfDebtors_5 rfl 0 rfl ?_
      refine G.getB (pc := 6) cx dX0_setOfDebtors_6 5 wm_fl_X0_63 (by decide) (congrArg (fun x => some (Value.int x)) (hN)) ?_
      refine G.icmp_geN (pc := 9) cx k4 N (by omega) (by omega) dX0_setOfDebtors_9 (tgt := 45) (by decide) (fun cq9 => ?_) (fun cq9 => ?_)
      · skip
        have nq9 := Nat.not_lt.mpr cq9
        have ex4 : k4 = N := by omega
        try rw [ex4]
        refine G.iload_n (pc := 45) cx dX0_setOfDebtors_45 rfl 1 rfl ?_
        refine G.iret (pc := 46) cx rfl dX0_setOfDebtors_46 ?_ ?_ rfl
        · rfl
        · rfl
      · skip
        have nq9 := Nat.not_le.mpr cq9
        refine G.iload_n (pc := 12) cx dX0_setOfDebtors_12 rfl 2 rfl ?_
        refine G.aload_n (pc := 13) cx dX0_setOfDebtors_13 rfl 0 rfl ?_
        refine G.getB (pc := 14) cx dX0_setOfDebtors_14 0 wm_fl_X0_11 (by decide) rfl ?_
        refine G.alenV (pc := 17) cx dX0_setOfDebtors_17 1 rfl bw_crew (v := 16) rfl ?_
        refine G.icmp_geN (pc := 18) cx k4 16 (by omega) (by omega) dX0_setOfDebtors_18 (tgt := 45) (by decide) (fun cq18 => ?_) (fun cq18 => ?_)
        · skip
          exact absurd cq18 (by omega)
        · skip
          have nq18 := Nat.not_le.mpr cq18
          refine G.aload_n (pc := 21) cx dX0_setOfDebtors_21 rfl 0 rfl ?_
          refine G.getB (pc := 22) cx dX0_setOfDebtors_22 0 wm_fl_X0_11 (by decide) rfl ?_
          refine G.iload_n (pc := 25) cx dX0_setOfDebtors_25 rfl 2 rfl ?_
          refine G.aaldV (pc := 26) cx dX0_setOfDebtors_26 1 rfl bw_crew (j := k4) rfl (by omega) (by decide) rfl ?_
          refine G.callV0 (pc := 27) (rest := []) (st1 := [.int (cBal z k4)]) cx (c_X6_balance l K sz b z V k4 (by omega)) ok_X6_balance dX0_setOfDebtors_27 wm_ml_X0_139 rfl (bw_s (by omega)) rfl rfl (Nat.le_of_ble_eq_true rfl) ⟨Nat.le_of_ble_eq_true rfl, Nat.le_of_ble_eq_true rfl⟩ rfl ?_
          refine G.if_ge (pc := 30) cx dX0_setOfDebtors_30 (tgt := 39) (by decide) (fun cq30 => ?_) (fun cq30 => ?_)
          · skip
            have nq30 := Int32.not_lt.mpr cq30
            refine G.iinc (pc := 39) cx dX0_setOfDebtors_39 (v := nI (k4 + 1)) (k := 2) rfl (nI_add k4 1) (by decide) rfl ?_
            refine G.goto (pc := 42) cx dX0_setOfDebtors_42 (tgt := 4) (by decide) ?_
            refine G.castL (lv' := [(0, .ref b), (1, .int (cDSet z k4)), (2, .int (nI (k4 + 1)))]) [1, 2, 0] rfl ?_
            refine G.lv0 (lv2 := [(0, .ref b), (1, .int (cDSet z (k4 + 1))), (2, .int (nI (k4 + 1)))]) (congrArg (fun q9 => ([(0, .ref b), (1, .int q9), (2, .int (nI (k4 + 1)))] : List (Nat × Value))) (show (cDSet z k4 : Int32) = cDSet z (k4 + 1) from by first | rfl | (simp [cDSet, *]; done) | (simp_all [cDSet]; done))) ?_
            exact ih4 (k4 + 1) (by omega) (by omega)
          · skip
            have nq30 := Int32.not_le.mp cq30
            refine G.iload_n (pc := 33) cx dX0_setOfDebtors_33 rfl 1 rfl ?_
            refine G.iconst (pc := 34) cx dX0_setOfDebtors_34 (v := 1) (by decide) ?_
            refine G.iload_n (pc := 35) cx dX0_setOfDebtors_35 rfl 2 rfl ?_
            refine G.ishl (pc := 36) cx dX0_setOfDebtors_36 ?_
            refine G.ior (pc := 37) cx dX0_setOfDebtors_37 ?_
            refine G.istore_n (pc := 38) cx dX0_setOfDebtors_38 rfl (by decide) rfl ?_
            refine G.iinc (pc := 39) cx dX0_setOfDebtors_39 (v := nI (k4 + 1)) (k := 2) rfl (nI_add k4 1) (by decide) rfl ?_
            refine G.goto (pc := 42) cx dX0_setOfDebtors_42 (tgt := 4) (by decide) ?_
            refine G.castL (lv' := [(0, .ref b), (1, .int ((cDSet z k4) ||| (1 <<< ((nI k4) &&& 31)))), (2, .int (nI (k4 + 1)))]) [2, 1, 0] rfl ?_
            refine G.lv0 (lv2 := [(0, .ref b), (1, .int (cDSet z (k4 + 1))), (2, .int (nI (k4 + 1)))]) (congrArg (fun q9 => ([(0, .ref b), (1, .int q9), (2, .int (nI (k4 + 1)))] : List (Nat × Value))) (show ((cDSet z k4) ||| (1 <<< ((nI k4) &&& 31)) : Int32) = cDSet z (k4 + 1) from by first | rfl | (simp [cDSet, *]; done) | (simp_all [cDSet]; done))) ?_
            exact ih4 (k4 + 1) (by omega) (by omega)
  refine G.castL (lv' := [(0, .ref b), (1, .int 0), (2, .int 0)]) [2, 1, 0] rfl ?_
  refine G.lv0 (lv2 := [(0, .ref b), (1, .int (cDSet z 0)), (2, .int 0)]) (congrArg (fun q9 => ([(0, .ref b), (1, .int q9), (2, .int 0)] : List (Nat × Value))) (show (0 : Int32) = cDSet z 0 from by first | rfl | (simp [cDSet, *]; done) | (simp_all [cDSet]; done))) ?_
  refine G.lv0 (lv2 := [(0, .ref b), (1, .int (cDSet z 0)), (2, .int (nI 0))]) (congrArg (fun q9 => ([(0, .ref b), (1, .int (cDSet z 0)), (2, .int q9)] : List (Nat × Value))) (show (0 : Int32) = nI 0 from by first | rfl | (simp [cDSet, *]; done) | (simp_all [cDSet]; done))) ?_
  exact L4_1 (N + 1) 0 (by omega) (by omega)
set_option maxHeartbeats 4000000 in
set_option maxRecDepth 100000 in
theorem c_X0_tellPayingOff (l : Launch) (K : KT) (sz : Nat) (b : Nat) (z : Zt) (V : VW) (q : Int32) (N : Nat) (hN : z 194 = nI N) (h16 : N ≤ 16) : Ct l K yX0_tellPayingOff cX0_tellPayingOff 2 (some .int) 3 [.ref b, .int q] (bw K b z V) sz (some (.int (cIfPO z N q))) (bw K b z V) sz 0 0 := by
  refine Ct.ofG (by decide) (Nat.le_of_ble_eq_true rfl) ?_
  intro p9 e9 s9 m9 a9 b9 t9 c9 cx hin9
  refine G.lv0 (lv2 := [(0, .ref b), (1, .int q)]) rfl ?_
  refine G.iload_n (pc := 0) cx dX0_tellPayingOff_0 rfl 1 rfl ?_
  by_cases sw1_0 : q = 0
  · subst sw1_0
    refine G.tableIn (pc := 1) cx dX0_tellPayingOff_1 (off := 31) (tgt := 32) (by decide) (by decide) (by decide) (by decide) ?_
    refine G.aload_n (pc := 32) cx dX0_tellPayingOff_32 rfl 0 rfl ?_
    refine G.callV0 (pc := 33) (rest := []) (st1 := [.int (cPaid z N)]) cx (c_X0_wouldBePaid l K sz b z V N (by assumption) (by omega)) ok_X0_wouldBePaid dX0_tellPayingOff_33 wm_ml_X0_219 rfl bw_b rfl rfl (Nat.le_of_ble_eq_true rfl) ⟨Nat.le_of_ble_eq_true rfl, Nat.le_of_ble_eq_true rfl⟩ rfl ?_
    refine G.iret (pc := 36) cx rfl dX0_tellPayingOff_36 ?_ ?_ rfl
    · refine congrArg (fun x => some (Value.int x)) ?_
      (try clear hin9); (try clear cx); simp [cIfPO, *]
    · rfl
  by_cases sw1_1 : q = 1
  · subst sw1_1
    refine G.tableIn (pc := 1) cx dX0_tellPayingOff_1 (off := 36) (tgt := 37) (by decide) (by decide) (by decide) (by decide) ?_
    refine G.aload_n (pc := 37) cx dX0_tellPayingOff_37 rfl 0 rfl ?_
    refine G.getB (pc := 38) cx dX0_tellPayingOff_38 4 wm_fl_X0_46 (by decide) rfl ?_
    refine G.aload_n (pc := 41) cx dX0_tellPayingOff_41 rfl 0 rfl ?_
    refine G.callV0 (pc := 42) (rest := [.ref (b + 30)]) (st1 := [.int (cPaid z N), .ref (b + 30)]) cx (c_X0_wouldBePaid l K sz b z V N (by assumption) (by omega)) ok_X0_wouldBePaid dX0_tellPayingOff_42 wm_ml_X0_219 rfl bw_b rfl rfl (Nat.le_of_ble_eq_true rfl) ⟨Nat.le_of_ble_eq_true rfl, Nat.le_of_ble_eq_true rfl⟩ rfl ?_
    refine G.callV0 (pc := 45) (rest := []) (st1 := [.int (cMiss z (cPaid z N))]) cx (c_X8_missingFor l K sz b z V (cPaid z N)) ok_X8_missingFor dX0_tellPayingOff_45 wm_ml_X0_222 rfl bw_t rfl rfl (Nat.le_of_ble_eq_true rfl) ⟨Nat.le_of_ble_eq_true rfl, Nat.le_of_ble_eq_true rfl⟩ rfl ?_
    refine G.iret (pc := 48) cx rfl dX0_tellPayingOff_48 ?_ ?_ rfl
    · refine congrArg (fun x => some (Value.int x)) ?_
      (try clear hin9); (try clear cx); simp [cIfPO, *]
    · rfl
  by_cases sw1_2 : q = 2
  · subst sw1_2
    refine G.tableIn (pc := 1) cx dX0_tellPayingOff_1 (off := 48) (tgt := 49) (by decide) (by decide) (by decide) (by decide) ?_
    refine G.aload_n (pc := 49) cx dX0_tellPayingOff_49 rfl 0 rfl ?_
    refine G.callV0 (pc := 50) (rest := []) (st1 := [.int (cDebt z N)]) cx (c_X0_debtsTogether l K sz b z V N (by assumption) (by omega)) ok_X0_debtsTogether dX0_tellPayingOff_50 wm_ml_X0_225 rfl bw_b rfl rfl (Nat.le_of_ble_eq_true rfl) ⟨Nat.le_of_ble_eq_true rfl, Nat.le_of_ble_eq_true rfl⟩ rfl ?_
    refine G.iret (pc := 53) cx rfl dX0_tellPayingOff_53 ?_ ?_ rfl
    · refine congrArg (fun x => some (Value.int x)) ?_
      (try clear hin9); (try clear cx); simp [cIfPO, *]
    · rfl
  by_cases sw1_3 : q = 3
  · subst sw1_3
    refine G.tableIn (pc := 1) cx dX0_tellPayingOff_1 (off := 53) (tgt := 54) (by decide) (by decide) (by decide) (by decide) ?_
    refine G.aload_n (pc := 54) cx dX0_tellPayingOff_54 rfl 0 rfl ?_
    refine G.callV0 (pc := 55) (rest := []) (st1 := [.int (cDSet z N)]) cx (c_X0_setOfDebtors l K sz b z V N (by assumption) (by omega)) ok_X0_setOfDebtors dX0_tellPayingOff_55 wm_ml_X0_228 rfl bw_b rfl rfl (Nat.le_of_ble_eq_true rfl) ⟨Nat.le_of_ble_eq_true rfl, Nat.le_of_ble_eq_true rfl⟩ rfl ?_
    refine G.iret (pc := 58) cx rfl dX0_tellPayingOff_58 ?_ ?_ rfl
    · refine congrArg (fun x => some (Value.int x)) ?_
      (try clear hin9); (try clear cx); simp [cIfPO, *]
    · rfl
  refine G.tableDef (pc := 1) cx dX0_tellPayingOff_1 (tgt := 59) ?_ (by decide) ?_
  · have g0 := sw_ne sw1_0 (by decide : (0 : Int) = (0 : Int32).toInt); have g1 := sw_ne sw1_1 (by decide : (1 : Int) = (1 : Int32).toInt); have g2 := sw_ne sw1_2 (by decide : (2 : Int) = (2 : Int32).toInt); have g3 := sw_ne sw1_3 (by decide : (3 : Int) = (3 : Int32).toInt)
    rcases (show q.toInt < 0 ∨ 3 < q.toInt by omega) with h | h
    · exact Or.inl h
    · exact Or.inr (Or.inl h)
  refine G.ldc (pc := 59) cx dX0_tellPayingOff_59 (v := (-1000001)) wm_ct_X0_84 ?_
  refine G.iret (pc := 61) cx rfl dX0_tellPayingOff_61 ?_ ?_ rfl
  · refine congrArg (fun x => some (Value.int x)) ?_
    (try clear hin9); (try clear cx); simp [cIfPO, *]
  · rfl
set_option maxHeartbeats 4000000 in
set_option maxRecDepth 100000 in
theorem c_X0_poorerThan (l : Launch) (K : KT) (sz : Nat) (b : Nat) (z : Zt) (V : VW) (k : Nat) (x : Int32) (N : Nat) (hN : z 194 = nI N) (h16 : N ≤ 16) (hk : k < 16) : Ct l K yX0_poorerThan cX0_poorerThan 6 (some .int) 2 [.ref b, .int (nI k), .int x] (bw K b z V) sz (some (.int (nI (cAhead z k x N)))) (bw K b z V) sz 0 0 := by
  refine Ct.ofG (by decide) (Nat.le_of_ble_eq_true rfl) ?_
  intro p9 e9 s9 m9 a9 b9 t9 c9 cx hin9
  refine G.lv0 (lv2 := [(0, .ref b), (1, .int (nI k)), (2, .int x)]) rfl ?_
  refine G.iconst (pc := 0) cx dX0_poorerThan_0 (v := 0) (by decide) ?_
  refine G.istore_n (pc := 1) cx dX0_poorerThan_1 rfl (by decide) rfl ?_
  refine G.iconst (pc := 2) cx dX0_poorerThan_2 (v := 0) (by decide) ?_
  refine G.istore (pc := 3) cx dX0_poorerThan_3 (by decide) rfl ?_
  have L5_1 : ∀ (f k5 : Nat), N - k5 < f → k5 ≤ N → G K p9 l e9 (rmL 2 0 0) s9 m9 a9 b9 t9 c9 (MQ b9 (QCt K (some (.int (nI (cAhead z k x N)))) (bw K b z V) sz) a9 s9 0 0 (kA K)) 6 (bw K b z V) sz 0 0 5 [(0, .ref b), (1, .int (nI k)), (2, .int x), (3, .int (nI (cAhead z k x k5))), (4, .int (nI k5))] [] := by
    intro f
    induction f with
    | zero => intro k5 h9; omega
    | succ f ih5 =>
      intro k5 h95 h85
      refine G.iload (pc := 5) cx dX0_poorerThan_5 4 rfl ?_
      refine G.aload_n (pc := 7) cx dX0_poorerThan_7 rfl 0 rfl ?_
      refine G.getB (pc := 8) cx dX0_poorerThan_8 5 wm_fl_X0_63 (by decide) (congrArg (fun x => some (Value.int x)) (hN)) ?_
      refine G.icmp_geN (pc := 11) cx k5 N (by omega) (by omega) dX0_poorerThan_11 (tgt := 76) (by decide) (fun cq11 => ?_) (fun cq11 => ?_)
      · skip
        have nq11 := Nat.not_lt.mpr cq11
        have ex5 : k5 = N := by omega
        try rw [ex5]
        refine G.iload_n (pc := 76) cx dX0_poorerThan_76 rfl 3 rfl ?_
        refine G.iret (pc := 77) cx rfl dX0_poorerThan_77 ?_ ?_ rfl
        · rfl
        · rfl
      · skip
        have nq11 := Nat.not_le.mpr cq11
        refine G.iload (pc := 14) cx dX0_poorerThan_14 4 rfl ?_
        refine G.aload_n (pc := 16) cx dX0_poorerThan_16 rfl 0 rfl ?_
        refine G.getB (pc := 17) cx dX0_poorerThan_17 0 wm_fl_X0_11 (by decide) rfl ?_
        refine G.alenV (pc := 20) cx dX0_poorerThan_20 1 rfl bw_crew (v := 16) rfl ?_
        refine G.icmp_geN (pc := 21) cx k5 16 (by omega) (by omega) dX0_poorerThan_21 (tgt := 76) (by decide) (fun cq21 => ?_) (fun cq21 => ?_)
        · skip
          exact absurd cq21 (by omega)
        · skip
          have nq21 := Nat.not_le.mpr cq21
          refine G.aload_n (pc := 24) cx dX0_poorerThan_24 rfl 0 rfl ?_
          refine G.getB (pc := 25) cx dX0_poorerThan_25 0 wm_fl_X0_11 (by decide) rfl ?_
          refine G.iload (pc := 28) cx dX0_poorerThan_28 4 rfl ?_
          refine G.aaldV (pc := 30) cx dX0_poorerThan_30 1 rfl bw_crew (j := k5) rfl (by omega) (by decide) rfl ?_
          refine G.callV0 (pc := 31) (rest := []) (st1 := [.int (cBal z k5)]) cx (c_X6_balance l K sz b z V k5 (by omega)) ok_X6_balance dX0_poorerThan_31 wm_ml_X0_139 rfl (bw_s (by omega)) rfl rfl (Nat.le_of_ble_eq_true rfl) ⟨Nat.le_of_ble_eq_true rfl, Nat.le_of_ble_eq_true rfl⟩ rfl ?_
          refine G.istore (pc := 34) cx dX0_poorerThan_34 (by decide) rfl ?_
          refine G.aload_n (pc := 36) cx dX0_poorerThan_36 rfl 1 rfl ?_
          refine G.getB (pc := 37) cx dX0_poorerThan_37 0 wm_fl_X0_11 (by decide) rfl ?_
          refine G.iload (pc := 40) cx dX0_poorerThan_40 5 rfl ?_
          refine G.aaldV (pc := 42) cx dX0_poorerThan_42 1 rfl bw_crew (j := k5) rfl (by omega) (by decide) rfl ?_
          refine G.callV0 (pc := 43) (rest := []) (st1 := [.int (b2 (z (10 * k5 + 2) = 2))]) cx (c_X6_isGone l K sz b z V k5 (by omega)) ok_X6_isGone dX0_poorerThan_43 wm_ml_X0_149 rfl (bw_s (by omega)) rfl rfl (Nat.le_of_ble_eq_true rfl) ⟨Nat.le_of_ble_eq_true rfl, Nat.le_of_ble_eq_true rfl⟩ rfl ?_
          refine G.if_neB (pc := 46) cx dX0_poorerThan_46 (tgt := 70) (by decide) (fun cq46 => ?_) (fun cq46 => ?_)
          · skip
            refine G.iinc (pc := 70) cx dX0_poorerThan_70 (v := nI (k5 + 1)) (k := 5) rfl (nI_add k5 1) (by decide) rfl ?_
            refine G.goto (pc := 73) cx dX0_poorerThan_73 (tgt := 5) (by decide) ?_
            refine G.castL (lv' := [(0, .ref b), (1, .int (nI k)), (2, .int x), (3, .int (nI (cAhead z k x k5))), (4, .int (nI (k5 + 1)))]) [2, 3, 4, 5, 0] rfl ?_
            refine G.lv0 (lv2 := [(0, .ref b), (1, .int (nI k)), (2, .int x), (3, .int (nI (cAhead z k x (k5 + 1)))), (4, .int (nI (k5 + 1)))]) (congrArg (fun q9 => ([(0, .ref b), (1, .int (nI k)), (2, .int x), (3, .int q9), (4, .int (nI (k5 + 1)))] : List (Nat × Value))) (show (nI (cAhead z k x k5) : Int32) = nI (cAhead z k x (k5 + 1)) from by first | rfl | (simp [cAhead, *]; done) | (simp_all [cAhead]; done) | (simp_all [cAhead, Nat.not_lt]; done))) ?_
            exact ih5 (k5 + 1) (by omega) (by omega)
          · skip
            refine G.iload (pc := 49) cx dX0_poorerThan_49 0 rfl ?_
            refine G.iload_n (pc := 51) cx dX0_poorerThan_51 rfl 3 rfl ?_
            refine G.icmp_lt (pc := 52) cx dX0_poorerThan_52 (tgt := 67) (by decide) (fun cq52 => ?_) (fun cq52 => ?_)
            · skip
              refine G.iinc (pc := 67) cx dX0_poorerThan_67 (v := nI (cAhead z k x k5 + 1)) (k := 4) rfl (nI_add (cAhead z k x k5) 1) (by decide) rfl ?_
              refine G.iinc (pc := 70) cx dX0_poorerThan_70 (v := nI (k5 + 1)) (k := 5) rfl (nI_add k5 1) (by decide) rfl ?_
              refine G.goto (pc := 73) cx dX0_poorerThan_73 (tgt := 5) (by decide) ?_
              refine G.castL (lv' := [(0, .ref b), (1, .int (nI k)), (2, .int x), (3, .int (nI (cAhead z k x k5 + 1))), (4, .int (nI (k5 + 1)))]) [3, 4, 5, 1, 0] rfl ?_
              refine G.lv0 (lv2 := [(0, .ref b), (1, .int (nI k)), (2, .int x), (3, .int (nI (cAhead z k x (k5 + 1)))), (4, .int (nI (k5 + 1)))]) (congrArg (fun q9 => ([(0, .ref b), (1, .int (nI k)), (2, .int x), (3, .int q9), (4, .int (nI (k5 + 1)))] : List (Nat × Value))) (show (nI (cAhead z k x k5 + 1) : Int32) = nI (cAhead z k x (k5 + 1)) from by first | rfl | (simp [cAhead, *]; done) | (simp_all [cAhead]; done) | (simp_all [cAhead, Nat.not_lt]; done))) ?_
              exact ih5 (k5 + 1) (by omega) (by omega)
            · skip
              refine G.iload (pc := 55) cx dX0_poorerThan_55 0 rfl ?_
              refine G.iload_n (pc := 57) cx dX0_poorerThan_57 rfl 3 rfl ?_
              refine G.icmp_ne (pc := 58) cx dX0_poorerThan_58 (tgt := 70) (by decide) (fun cq58 => ?_) (fun cq58 => ?_)
              · skip
                refine G.iinc (pc := 70) cx dX0_poorerThan_70 (v := nI (k5 + 1)) (k := 5) rfl (nI_add k5 1) (by decide) rfl ?_
                refine G.goto (pc := 73) cx dX0_poorerThan_73 (tgt := 5) (by decide) ?_
                refine G.castL (lv' := [(0, .ref b), (1, .int (nI k)), (2, .int x), (3, .int (nI (cAhead z k x k5))), (4, .int (nI (k5 + 1)))]) [2, 3, 4, 5, 0] rfl ?_
                refine G.lv0 (lv2 := [(0, .ref b), (1, .int (nI k)), (2, .int x), (3, .int (nI (cAhead z k x (k5 + 1)))), (4, .int (nI (k5 + 1)))]) (congrArg (fun q9 => ([(0, .ref b), (1, .int (nI k)), (2, .int x), (3, .int q9), (4, .int (nI (k5 + 1)))] : List (Nat × Value))) (show (nI (cAhead z k x k5) : Int32) = nI (cAhead z k x (k5 + 1)) from by first | rfl | (simp [cAhead, *]; done) | (simp_all [cAhead]; done) | (simp_all [cAhead, Nat.not_lt]; done))) ?_
                exact ih5 (k5 + 1) (by omega) (by omega)
              · skip
                refine G.iload (pc := 61) cx dX0_poorerThan_61 5 rfl ?_
                refine G.iload_n (pc := 63) cx dX0_poorerThan_63 rfl 2 rfl ?_
                refine G.icmp_geN (pc := 64) cx k5 k (by omega) (by omega) dX0_poorerThan_64 (tgt := 70) (by decide) (fun cq64 => ?_) (fun cq64 => ?_)
                · skip
                  have nq64 := Nat.not_lt.mpr cq64
                  refine G.iinc (pc := 70) cx dX0_poorerThan_70 (v := nI (k5 + 1)) (k := 5) rfl (nI_add k5 1) (by decide) rfl ?_
                  refine G.goto (pc := 73) cx dX0_poorerThan_73 (tgt := 5) (by decide) ?_
                  refine G.castL (lv' := [(0, .ref b), (1, .int (nI k)), (2, .int x), (3, .int (nI (cAhead z k x k5))), (4, .int (nI (k5 + 1)))]) [2, 3, 4, 5, 0] rfl ?_
                  refine G.lv0 (lv2 := [(0, .ref b), (1, .int (nI k)), (2, .int x), (3, .int (nI (cAhead z k x (k5 + 1)))), (4, .int (nI (k5 + 1)))]) (congrArg (fun q9 => ([(0, .ref b), (1, .int (nI k)), (2, .int x), (3, .int q9), (4, .int (nI (k5 + 1)))] : List (Nat × Value))) (show (nI (cAhead z k x k5) : Int32) = nI (cAhead z k x (k5 + 1)) from by first | rfl | (simp [cAhead, *]; done) | (simp_all [cAhead]; done) | (simp_all [cAhead, Nat.not_lt]; done))) ?_
                  exact ih5 (k5 + 1) (by omega) (by omega)
                · skip
                  have nq64 := Nat.not_le.mpr cq64
                  refine G.iinc (pc := 67) cx dX0_poorerThan_67 (v := nI (cAhead z k x k5 + 1)) (k := 4) rfl (nI_add (cAhead z k x k5) 1) (by decide) rfl ?_
                  refine G.iinc (pc := 70) cx dX0_poorerThan_70 (v := nI (k5 + 1)) (k := 5) rfl (nI_add k5 1) (by decide) rfl ?_
                  refine G.goto (pc := 73) cx dX0_poorerThan_73 (tgt := 5) (by decide) ?_
                  refine G.castL (lv' := [(0, .ref b), (1, .int (nI k)), (2, .int x), (3, .int (nI (cAhead z k x k5 + 1))), (4, .int (nI (k5 + 1)))]) [3, 4, 5, 1, 0] rfl ?_
                  refine G.lv0 (lv2 := [(0, .ref b), (1, .int (nI k)), (2, .int x), (3, .int (nI (cAhead z k x (k5 + 1)))), (4, .int (nI (k5 + 1)))]) (congrArg (fun q9 => ([(0, .ref b), (1, .int (nI k)), (2, .int x), (3, .int q9), (4, .int (nI (k5 + 1)))] : List (Nat × Value))) (show (nI (cAhead z k x k5 + 1) : Int32) = nI (cAhead z k x (k5 + 1)) from by first | rfl | (simp [cAhead, *]; done) | (simp_all [cAhead]; done) | (simp_all [cAhead, Nat.not_lt]; done))) ?_
                  exact ih5 (k5 + 1) (by omega) (by omega)
  refine G.castL (lv' := [(0, .ref b), (1, .int (nI k)), (2, .int x), (3, .int 0), (4, .int 0)]) [2, 3, 4, 1, 0] rfl ?_
  refine G.lv0 (lv2 := [(0, .ref b), (1, .int (nI k)), (2, .int x), (3, .int (nI (cAhead z k x 0))), (4, .int 0)]) (congrArg (fun q9 => ([(0, .ref b), (1, .int (nI k)), (2, .int x), (3, .int q9), (4, .int 0)] : List (Nat × Value))) (show (0 : Int32) = nI (cAhead z k x 0) from by first | rfl | (simp [cAhead, *]; done) | (simp_all [cAhead]; done) | (simp_all [cAhead, Nat.not_lt]; done))) ?_
  refine G.lv0 (lv2 := [(0, .ref b), (1, .int (nI k)), (2, .int x), (3, .int (nI (cAhead z k x 0))), (4, .int (nI 0))]) (congrArg (fun q9 => ([(0, .ref b), (1, .int (nI k)), (2, .int x), (3, .int (nI (cAhead z k x 0))), (4, .int q9)] : List (Nat × Value))) (show (0 : Int32) = nI 0 from by first | rfl | (simp [cAhead, *]; done) | (simp_all [cAhead]; done) | (simp_all [cAhead, Nat.not_lt]; done))) ?_
  exact L5_1 (N + 1) 0 (by omega) (by omega)
set_option maxHeartbeats 4000000 in
set_option maxRecDepth 100000 in
theorem c_X0_sailorByBalance (l : Launch) (K : KT) (sz : Nat) (b : Nat) (z : Zt) (V : VW) (p : Int32) (N : Nat) (hN : z 194 = nI N) (h16 : N ≤ 16) : Ct l K yX0_sailorByBalance cX0_sailorByBalance 3 (some .int) 3 [.ref b, .int p] (bw K b z V) sz (some (.int (cPoorest z N p))) (bw K b z V) sz 0 0 := by
  refine Ct.ofG (by decide) (Nat.le_of_ble_eq_true rfl) ?_
  intro p9 e9 s9 m9 a9 b9 t9 c9 cx hin9
  refine G.lv0 (lv2 := [(0, .ref b), (1, .int p)]) rfl ?_
  refine G.iload_n (pc := 0) cx dX0_sailorByBalance_0 rfl 1 rfl ?_
  refine G.if_ge (pc := 1) cx dX0_sailorByBalance_1 (tgt := 7) (by decide) (fun cq1 => ?_) (fun cq1 => ?_)
  · skip
    have nq1 := Int32.not_lt.mpr cq1
    refine G.iconst (pc := 7) cx dX0_sailorByBalance_7 (v := 0) (by decide) ?_
    refine G.istore_n (pc := 8) cx dX0_sailorByBalance_8 rfl (by decide) rfl ?_
    have L9_1 : ∀ (f k9 : Nat), N - k9 < f → k9 ≤ N → (cFind z N p (N - k9) k9 = cFind z N p N 0) → G K p9 l e9 (rmL 3 0 0) s9 m9 a9 b9 t9 c9 (MQ b9 (QCt K (some (.int (cPoorest z N p))) (bw K b z V) sz) a9 s9 0 0 (kA K)) 3 (bw K b z V) sz 0 0 9 [(0, .ref b), (1, .int p), (2, .int (nI k9))] [] := by
      intro f
      induction f with
      | zero => intro k9 h9; omega
      | succ f ih9 =>
        intro k9 h99 h89 hM
        refine G.iload_n (pc := 9) cx dX0_sailorByBalance_9 rfl 2 rfl ?_
        refine G.aload_n (pc := 10) cx dX0_sailorByBalance_10 rfl 0 rfl ?_
        refine G.getB (pc := 11) cx dX0_sailorByBalance_11 5 wm_fl_X0_63 (by decide) (congrArg (fun x => some (Value.int x)) (hN)) ?_
        refine G.icmp_geN (pc := 14) cx k9 N (by omega) (by omega) dX0_sailorByBalance_14 (tgt := 64) (by decide) (fun cq14 => ?_) (fun cq14 => ?_)
        · skip
          have nq14 := Nat.not_lt.mpr cq14
          have ex9 : k9 = N := by omega
          try rw [ex9]
          refine G.ldc (pc := 64) cx dX0_sailorByBalance_64 (v := (-1000004)) wm_ct_X0_218 ?_
          refine G.iret (pc := 66) cx rfl dX0_sailorByBalance_66 ?_ ?_ rfl
          · refine congrArg (fun x => some (Value.int x)) ?_
            (try clear L9_1); (try clear ih9); (try clear hin9); (try clear cx); refine (if_neg (Int32.not_lt.mpr cq1)).trans ?_; rw [← hM, ex9, Nat.sub_self]; rfl
          · rfl
        · skip
          have nq14 := Nat.not_le.mpr cq14
          refine G.iload_n (pc := 17) cx dX0_sailorByBalance_17 rfl 2 rfl ?_
          refine G.aload_n (pc := 18) cx dX0_sailorByBalance_18 rfl 0 rfl ?_
          refine G.getB (pc := 19) cx dX0_sailorByBalance_19 0 wm_fl_X0_11 (by decide) rfl ?_
          refine G.alenV (pc := 22) cx dX0_sailorByBalance_22 1 rfl bw_crew (v := 16) rfl ?_
          refine G.icmp_geN (pc := 23) cx k9 16 (by omega) (by omega) dX0_sailorByBalance_23 (tgt := 64) (by decide) (fun cq23 => ?_) (fun cq23 => ?_)
          · skip
            exact absurd cq23 (by omega)
          · skip
            have nq23 := Nat.not_le.mpr cq23
            refine G.aload_n (pc := 26) cx dX0_sailorByBalance_26 rfl 0 rfl ?_
            refine G.getB (pc := 27) cx dX0_sailorByBalance_27 0 wm_fl_X0_11 (by decide) rfl ?_
            refine G.iload_n (pc := 30) cx dX0_sailorByBalance_30 rfl 2 rfl ?_
            refine G.aaldV (pc := 31) cx dX0_sailorByBalance_31 1 rfl bw_crew (j := k9) rfl (by omega) (by decide) rfl ?_
            refine G.callV0 (pc := 32) (rest := []) (st1 := [.int (b2 (z (10 * k9 + 2) = 2))]) cx (c_X6_isGone l K sz b z V k9 (by omega)) ok_X6_isGone dX0_sailorByBalance_32 wm_ml_X0_149 rfl (bw_s (by omega)) rfl rfl (Nat.le_of_ble_eq_true rfl) ⟨Nat.le_of_ble_eq_true rfl, Nat.le_of_ble_eq_true rfl⟩ rfl ?_
            refine G.if_neB (pc := 35) cx dX0_sailorByBalance_35 (tgt := 58) (by decide) (fun cq35 => ?_) (fun cq35 => ?_)
            · skip
              refine G.iinc (pc := 58) cx dX0_sailorByBalance_58 (v := nI (k9 + 1)) (k := 2) rfl (nI_add k9 1) (by decide) rfl ?_
              refine G.goto (pc := 61) cx dX0_sailorByBalance_61 (tgt := 9) (by decide) ?_
              refine G.castL (lv' := [(0, .ref b), (1, .int p), (2, .int (nI (k9 + 1)))]) [1, 2, 0] rfl ?_
              exact ih9 (k9 + 1) (by omega) (by omega) (by first | exact (cFind_s cq14 (fun h => h.1 cq35)).symm.trans hM | exact (cFind_s cq14 (fun h => cq53 h.2)).symm.trans hM)
            · skip
              refine G.aload_n (pc := 38) cx dX0_sailorByBalance_38 rfl 0 rfl ?_
              refine G.iload_n (pc := 39) cx dX0_sailorByBalance_39 rfl 2 rfl ?_
              refine G.aload_n (pc := 40) cx dX0_sailorByBalance_40 rfl 0 rfl ?_
              refine G.getB (pc := 41) cx dX0_sailorByBalance_41 0 wm_fl_X0_11 (by decide) rfl ?_
              refine G.iload_n (pc := 44) cx dX0_sailorByBalance_44 rfl 2 rfl ?_
              refine G.aaldV (pc := 45) cx dX0_sailorByBalance_45 1 rfl bw_crew (j := k9) rfl (by omega) (by decide) rfl ?_
              refine G.callV0 (pc := 46) (rest := [.int (nI k9), .ref b]) (st1 := [.int (cBal z k9), .int (nI k9), .ref b]) cx (c_X6_balance l K sz b z V k9 (by omega)) ok_X6_balance dX0_sailorByBalance_46 wm_ml_X0_139 rfl (bw_s (by omega)) rfl rfl (Nat.le_of_ble_eq_true rfl) ⟨Nat.le_of_ble_eq_true rfl, Nat.le_of_ble_eq_true rfl⟩ rfl ?_
              refine G.callV0 (pc := 49) (rest := []) (st1 := [.int (nI (cAhead z k9 (cBal z k9) N))]) cx (c_X0_poorerThan l K sz b z V k9 (cBal z k9) N (by assumption) (by omega) (by omega)) ok_X0_poorerThan dX0_sailorByBalance_49 wm_ml_X0_234 rfl bw_b rfl rfl (Nat.le_of_ble_eq_true rfl) ⟨Nat.le_of_ble_eq_true rfl, Nat.le_of_ble_eq_true rfl⟩ rfl ?_
              refine G.iload_n (pc := 52) cx dX0_sailorByBalance_52 rfl 1 rfl ?_
              refine G.icmp_ne (pc := 53) cx dX0_sailorByBalance_53 (tgt := 58) (by decide) (fun cq53 => ?_) (fun cq53 => ?_)
              · skip
                refine G.iinc (pc := 58) cx dX0_sailorByBalance_58 (v := nI (k9 + 1)) (k := 2) rfl (nI_add k9 1) (by decide) rfl ?_
                refine G.goto (pc := 61) cx dX0_sailorByBalance_61 (tgt := 9) (by decide) ?_
                refine G.castL (lv' := [(0, .ref b), (1, .int p), (2, .int (nI (k9 + 1)))]) [1, 2, 0] rfl ?_
                exact ih9 (k9 + 1) (by omega) (by omega) (by first | exact (cFind_s cq14 (fun h => h.1 cq35)).symm.trans hM | exact (cFind_s cq14 (fun h => cq53 h.2)).symm.trans hM)
              · skip
                refine G.iload_n (pc := 56) cx dX0_sailorByBalance_56 rfl 2 rfl ?_
                refine G.iret (pc := 57) cx rfl dX0_sailorByBalance_57 ?_ ?_ rfl
                · refine congrArg (fun x => some (Value.int x)) ?_
                  (try clear L9_1); (try clear ih9); (try clear hin9); (try clear cx); refine (if_neg (Int32.not_lt.mpr cq1)).trans ?_; rw [← hM]; exact cFind_e cq14 ⟨cq35, cq53⟩
                · rfl
    refine G.castL (lv' := [(0, .ref b), (1, .int p), (2, .int 0)]) [1, 2, 0] rfl ?_
    refine G.lv0 (lv2 := [(0, .ref b), (1, .int p), (2, .int (nI 0))]) (congrArg (fun q9 => ([(0, .ref b), (1, .int p), (2, .int q9)] : List (Nat × Value))) (show (0 : Int32) = nI 0 from by (try clear L9_1); (try clear ih9); (try clear hin9); (try clear cx); first | rfl | (refine b2_t ?_; grind) | (refine b2_f ?_; grind) | (refine (b2_t ?_).symm; grind) | (refine (b2_f ?_).symm; grind) | (simp [*]; done) | (simp_all; done) | grind)) ?_
    exact L9_1 (N + 1) 0 (by omega) (by omega) (by rfl)
  · skip
    have nq1 := Int32.not_le.mp cq1
    refine G.ldc (pc := 4) cx dX0_sailorByBalance_4 (v := (-1000001)) wm_ct_X0_84 ?_
    refine G.iret (pc := 6) cx rfl dX0_sailorByBalance_6 ?_ ?_ rfl
    · refine congrArg (fun x => some (Value.int x)) ?_
      (try clear L9_1); (try clear ih9); (try clear hin9); (try clear cx); exact if_pos (Int32.not_le.mp cq1)
    · rfl
set_option maxHeartbeats 4000000 in
set_option maxRecDepth 100000 in
theorem c_X0_daysUntilClear (l : Launch) (K : KT) (sz : Nat) (b : Nat) (z : Zt) (V : VW) (a : Int32) (N : Nat) (hN : z 194 = nI N) (h16 : N ≤ 16) : Ct l K yX0_daysUntilClear cX0_daysUntilClear 5 (some .int) 2 [.ref b, .int a] (bw K b z V) sz (some (.int (cClearIn z a))) (bw K b z V) sz 0 0 := by
  refine Ct.ofG (by decide) (Nat.le_of_ble_eq_true rfl) ?_
  intro p9 e9 s9 m9 a9 b9 t9 c9 cx hin9
  refine G.lv0 (lv2 := [(0, .ref b), (1, .int a)]) rfl ?_
  by_cases hS : 0 ≤ a ∧ a ≤ z 194 - 1
  · skip
    obtain ⟨k, hk, rfl⟩ := sail_of hN h16 hS
    have tk : (nI k).toNatClampNeg = k := nI_clamp (by omega)
    refine G.aload_n (pc := 0) cx dX0_daysUntilClear_0 rfl 0 rfl ?_
    refine G.iload_n (pc := 1) cx dX0_daysUntilClear_1 rfl 1 rfl ?_
    refine G.callV0 (pc := 2) (rest := []) (st1 := [.ref (b + 2 + k)]) cx (c_X0_findSailor l K sz b z V N k (by assumption) (by omega) (by omega)) ok_X0_findSailor dX0_daysUntilClear_2 wm_ml_X0_115 rfl bw_b rfl rfl (Nat.le_of_ble_eq_true rfl) ⟨Nat.le_of_ble_eq_true rfl, Nat.le_of_ble_eq_true rfl⟩ rfl ?_
    refine G.astore_n (pc := 5) cx dX0_daysUntilClear_5 rfl (by decide) rfl ?_
    refine G.aload_n (pc := 6) cx dX0_daysUntilClear_6 rfl 0 rfl ?_
    refine G.ifnonnull (pc := 7) cx dX0_daysUntilClear_7 (tgt := 13) (by decide) ?_
    refine G.aload_n (pc := 13) cx dX0_daysUntilClear_13 rfl 0 rfl ?_
    refine G.callV0 (pc := 14) (rest := []) (st1 := [.int (b2 (z (10 * k + 2) = 2))]) cx (c_X6_isGone l K sz b z V k (by omega)) ok_X6_isGone dX0_daysUntilClear_14 wm_ml_X0_149 rfl (bw_s (by omega)) rfl rfl (Nat.le_of_ble_eq_true rfl) ⟨Nat.le_of_ble_eq_true rfl, Nat.le_of_ble_eq_true rfl⟩ rfl ?_
    refine G.if_eqB (pc := 17) cx dX0_daysUntilClear_17 (tgt := 23) (by decide) (fun cq17 => ?_) (fun cq17 => ?_)
    · skip
      refine G.aload_n (pc := 23) cx dX0_daysUntilClear_23 rfl 0 rfl ?_
      refine G.getS (pc := 24) cx dX0_daysUntilClear_24 8 wm_fl_X0_209 (by decide) (by omega) rfl ?_
      refine G.aload_n (pc := 27) cx dX0_daysUntilClear_27 rfl 0 rfl ?_
      refine G.callV0 (pc := 28) (rest := [.int (-(z (10 * k + 8)))]) (st1 := [.int (zChg z k), .int (-(z (10 * k + 8)))]) cx (c_X6_charged l K sz b z V k (by omega)) ok_X6_charged dX0_daysUntilClear_28 wm_ml_X0_212 rfl (bw_s (by omega)) rfl rfl (Nat.le_of_ble_eq_true rfl) ⟨Nat.le_of_ble_eq_true rfl, Nat.le_of_ble_eq_true rfl⟩ rfl ?_
      refine G.iadd (pc := 31) cx dX0_daysUntilClear_31 ?_
      refine G.istore_n (pc := 32) cx dX0_daysUntilClear_32 rfl (by decide) rfl ?_
      refine G.iconst (pc := 33) cx dX0_daysUntilClear_33 (v := 0) (by decide) ?_
      refine G.istore (pc := 34) cx dX0_daysUntilClear_34 (by decide) rfl ?_
      have L36_1 : ∀ (f k36 : Nat), 401 - k36 < f → k36 ≤ 401 → (cClrF z k (401 - k36) k36 = cClrF z k 401 0) → G K p9 l e9 (rmL 2 0 0) s9 m9 a9 b9 t9 c9 (MQ b9 (QCt K (some (.int (cClearIn z (nI k)))) (bw K b z V) sz) a9 s9 0 0 (kA K)) 5 (bw K b z V) sz 0 0 36 [(3, .int ((-(z (10 * k + 8))) + (zChg z k))), (2, .ref (b + 2 + k)), (0, .ref b), (1, .int (nI k)), (4, .int (nI k36))] [] := by
        intro f
        induction f with
        | zero => intro k36 h9; omega
        | succ f ih36 =>
          intro k36 h936 h836 hM
          refine G.iload (pc := 36) cx dX0_daysUntilClear_36 4 rfl ?_
          refine G.sipush (pc := 38) cx dX0_daysUntilClear_38 (v := 400) (by decide) ?_
          refine G.icmp_gtN (pc := 41) cx k36 400 (by omega) (by omega) dX0_daysUntilClear_41 (tgt := 67) (by decide) (fun cq41 => ?_) (fun cq41 => ?_)
          · skip
            have nq41 := Nat.not_le.mpr cq41
            have ex36 : k36 = 401 := by omega
            try rw [ex36]
            refine G.ldc (pc := 67) cx dX0_daysUntilClear_67 (v := (-1000004)) wm_ct_X0_218 ?_
            refine G.iret (pc := 69) cx rfl dX0_daysUntilClear_69 ?_ ?_ rfl
            · refine congrArg (fun x => some (Value.int x)) ?_
              (try clear L36_1); (try clear ih36); (try clear hin9); (try clear cx); refine (if_neg (fun h => h hS)).trans ?_; rw [tk]; refine (if_neg cq17).trans ?_; rw [← hM, ex36]; rfl
            · rfl
          · skip
            have nq41 := Nat.not_lt.mpr cq41
            refine G.aload_n (pc := 44) cx dX0_daysUntilClear_44 rfl 1 rfl ?_
            refine G.iload (pc := 45) cx dX0_daysUntilClear_45 4 rfl ?_
            refine G.aload_n (pc := 47) cx dX0_daysUntilClear_47 rfl 2 rfl ?_
            refine G.getB (pc := 48) cx dX0_daysUntilClear_48 9 wm_fl_X0_76 (by decide) rfl ?_
            refine G.callV0 (pc := 51) (rest := []) (st1 := [.int (cEarnA z k (nI k36) (z 191))]) cx (c_X6_earnedAfter l K sz b z V k (nI k36) (z 191) (by omega)) ok_X6_earnedAfter dX0_daysUntilClear_51 wm_ml_X0_214 rfl (bw_s (by omega)) rfl rfl (Nat.le_of_ble_eq_true rfl) ⟨Nat.le_of_ble_eq_true rfl, Nat.le_of_ble_eq_true rfl⟩ rfl ?_
            refine G.iload_n (pc := 54) cx dX0_daysUntilClear_54 rfl 0 rfl ?_
            refine G.icmp_lt (pc := 55) cx dX0_daysUntilClear_55 (tgt := 61) (by decide) (fun cq55 => ?_) (fun cq55 => ?_)
            · skip
              refine G.iinc (pc := 61) cx dX0_daysUntilClear_61 (v := nI (k36 + 1)) (k := 4) rfl (nI_add k36 1) (by decide) rfl ?_
              refine G.goto (pc := 64) cx dX0_daysUntilClear_64 (tgt := 36) (by decide) ?_
              refine G.castL (lv' := [(3, .int ((-(z (10 * k + 8))) + (zChg z k))), (2, .ref (b + 2 + k)), (0, .ref b), (1, .int (nI k)), (4, .int (nI (k36 + 1)))]) [1, 2, 3, 4, 0] rfl ?_
              exact ih36 (k36 + 1) (by omega) (by omega) (by exact (cClrF_s cq41 cq55).symm.trans hM)
            · skip
              refine G.iload (pc := 58) cx dX0_daysUntilClear_58 4 rfl ?_
              refine G.iret (pc := 60) cx rfl dX0_daysUntilClear_60 ?_ ?_ rfl
              · refine congrArg (fun x => some (Value.int x)) ?_
                (try clear L36_1); (try clear ih36); (try clear hin9); (try clear cx); refine (if_neg (fun h => h hS)).trans ?_; rw [tk]; refine (if_neg cq17).trans ?_; rw [← hM]; exact cClrF_e cq41 cq55
              · rfl
      refine G.castL (lv' := [(3, .int ((-(z (10 * k + 8))) + (zChg z k))), (2, .ref (b + 2 + k)), (0, .ref b), (1, .int (nI k)), (4, .int 0)]) [1, 2, 3, 4, 0] rfl ?_
      refine G.lv0 (lv2 := [(3, .int ((-(z (10 * k + 8))) + (zChg z k))), (2, .ref (b + 2 + k)), (0, .ref b), (1, .int (nI k)), (4, .int (nI 0))]) (congrArg (fun q9 => ([(3, .int ((-(z (10 * k + 8))) + (zChg z k))), (2, .ref (b + 2 + k)), (0, .ref b), (1, .int (nI k)), (4, .int q9)] : List (Nat × Value))) (show (0 : Int32) = nI 0 from by (try clear L36_1); (try clear ih36); (try clear hin9); (try clear cx); first | rfl | (refine b2_t ?_; grind) | (refine b2_f ?_; grind) | (refine (b2_t ?_).symm; grind) | (refine (b2_f ?_).symm; grind) | (simp [*]; done) | (simp_all; done) | grind)) ?_
      exact L36_1 (401 + 1) 0 (by omega) (by omega) (by rfl)
    · skip
      refine G.ldc (pc := 20) cx dX0_daysUntilClear_20 (v := (-1000002)) wm_ct_X0_85 ?_
      refine G.iret (pc := 22) cx rfl dX0_daysUntilClear_22 ?_ ?_ rfl
      · refine congrArg (fun x => some (Value.int x)) ?_
        (try clear L36_1); (try clear ih36); (try clear hin9); (try clear cx); refine (if_neg (fun h => h hS)).trans ?_; rw [tk]; exact if_pos cq17
      · rfl
  · skip
    refine G.aload_n (pc := 0) cx dX0_daysUntilClear_0 rfl 0 rfl ?_
    refine G.iload_n (pc := 1) cx dX0_daysUntilClear_1 rfl 1 rfl ?_
    refine G.callV0 (pc := 2) (rest := []) (st1 := [.null]) cx (c_X0_findSailorN l K sz b z V N a (by assumption) (by omega) (by assumption)) ok_X0_findSailor dX0_daysUntilClear_2 wm_ml_X0_115 rfl bw_b rfl rfl (Nat.le_of_ble_eq_true rfl) ⟨Nat.le_of_ble_eq_true rfl, Nat.le_of_ble_eq_true rfl⟩ rfl ?_
    refine G.astore_nN (pc := 5) cx dX0_daysUntilClear_5 rfl (by decide) rfl ?_
    refine G.aload_nN (pc := 6) cx dX0_daysUntilClear_6 rfl 0 rfl ?_
    refine G.ifnonnullN (pc := 7) cx dX0_daysUntilClear_7 ?_
    refine G.ldc (pc := 10) cx dX0_daysUntilClear_10 (v := (-1000001)) wm_ct_X0_84 ?_
    refine G.iret (pc := 12) cx rfl dX0_daysUntilClear_12 ?_ ?_ rfl
    · refine congrArg (fun x => some (Value.int x)) ?_
      (try clear L36_1); (try clear ih36); (try clear hin9); (try clear cx); exact if_pos hS
    · rfl
set_option maxHeartbeats 4000000 in
set_option maxRecDepth 100000 in
theorem c_X0_tellCoins (l : Launch) (K : KT) (sz : Nat) (b : Nat) (z : Zt) (V : VW) (q : Int32)  : Ct l K yX0_tellCoins cX0_tellCoins 2 (some .int) 0 [.ref b, .int q] (bw K b z V) sz (some (.int (cCoins z q))) (bw K b z V) sz 0 0 := by
  refine Ct.ofG (by decide) (Nat.le_of_ble_eq_true rfl) ?_
  intro p9 e9 s9 m9 a9 b9 t9 c9 cx hin9
  refine G.lv0 (lv2 := [(0, .ref b), (1, .int q)]) rfl ?_
  refine G.iload_n (pc := 0) cx dX0_tellCoins_0 rfl 1 rfl ?_
  by_cases sw1_8 : q = 8
  · subst sw1_8
    refine G.tableIn (pc := 1) cx dX0_tellCoins_1 (off := 47) (tgt := 48) (by decide) (by decide) (by decide) (by decide) ?_
    refine G.aload_n (pc := 48) cx dX0_tellCoins_48 rfl 0 rfl ?_
    refine G.getB (pc := 49) cx dX0_tellCoins_49 4 wm_fl_X0_46 (by decide) rfl ?_
    refine G.getT (pc := 52) cx dX0_tellCoins_52 0 wm_fl_X0_159 (by decide) rfl ?_
    refine G.iret (pc := 55) cx rfl dX0_tellCoins_55 ?_ ?_ rfl
    · refine congrArg (fun x => some (Value.int x)) ?_
      (try clear hin9); (try clear cx); simp [cCoins, *]
    · rfl
  by_cases sw1_9 : q = 9
  · subst sw1_9
    refine G.tableIn (pc := 1) cx dX0_tellCoins_1 (off := 55) (tgt := 56) (by decide) (by decide) (by decide) (by decide) ?_
    refine G.aload_n (pc := 56) cx dX0_tellCoins_56 rfl 0 rfl ?_
    refine G.getB (pc := 57) cx dX0_tellCoins_57 4 wm_fl_X0_46 (by decide) rfl ?_
    refine G.getT (pc := 60) cx dX0_tellCoins_60 1 wm_fl_X0_250 (by decide) rfl ?_
    refine G.iret (pc := 63) cx rfl dX0_tellCoins_63 ?_ ?_ rfl
    · refine congrArg (fun x => some (Value.int x)) ?_
      (try clear hin9); (try clear cx); simp [cCoins, *]
    · rfl
  by_cases sw1_10 : q = 10
  · subst sw1_10
    refine G.tableIn (pc := 1) cx dX0_tellCoins_1 (off := 63) (tgt := 64) (by decide) (by decide) (by decide) (by decide) ?_
    refine G.aload_n (pc := 64) cx dX0_tellCoins_64 rfl 0 rfl ?_
    refine G.getB (pc := 65) cx dX0_tellCoins_65 4 wm_fl_X0_46 (by decide) rfl ?_
    refine G.getT (pc := 68) cx dX0_tellCoins_68 2 wm_fl_X0_98 (by decide) rfl ?_
    refine G.iret (pc := 71) cx rfl dX0_tellCoins_71 ?_ ?_ rfl
    · refine congrArg (fun x => some (Value.int x)) ?_
      (try clear hin9); (try clear cx); simp [cCoins, *]
    · rfl
  by_cases sw1_11 : q = 11
  · subst sw1_11
    refine G.tableIn (pc := 1) cx dX0_tellCoins_1 (off := 71) (tgt := 72) (by decide) (by decide) (by decide) (by decide) ?_
    refine G.aload_n (pc := 72) cx dX0_tellCoins_72 rfl 0 rfl ?_
    refine G.getB (pc := 73) cx dX0_tellCoins_73 4 wm_fl_X0_46 (by decide) rfl ?_
    refine G.getT (pc := 76) cx dX0_tellCoins_76 3 wm_fl_X0_156 (by decide) rfl ?_
    refine G.iret (pc := 79) cx rfl dX0_tellCoins_79 ?_ ?_ rfl
    · refine congrArg (fun x => some (Value.int x)) ?_
      (try clear hin9); (try clear cx); simp [cCoins, *]
    · rfl
  by_cases sw1_12 : q = 12
  · subst sw1_12
    refine G.tableIn (pc := 1) cx dX0_tellCoins_1 (off := 79) (tgt := 80) (by decide) (by decide) (by decide) (by decide) ?_
    refine G.aload_n (pc := 80) cx dX0_tellCoins_80 rfl 0 rfl ?_
    refine G.getB (pc := 81) cx dX0_tellCoins_81 4 wm_fl_X0_46 (by decide) rfl ?_
    refine G.getT (pc := 84) cx dX0_tellCoins_84 4 wm_fl_X0_202 (by decide) rfl ?_
    refine G.iret (pc := 87) cx rfl dX0_tellCoins_87 ?_ ?_ rfl
    · refine congrArg (fun x => some (Value.int x)) ?_
      (try clear hin9); (try clear cx); simp [cCoins, *]
    · rfl
  by_cases sw1_13 : q = 13
  · subst sw1_13
    refine G.tableIn (pc := 1) cx dX0_tellCoins_1 (off := 87) (tgt := 88) (by decide) (by decide) (by decide) (by decide) ?_
    refine G.aload_n (pc := 88) cx dX0_tellCoins_88 rfl 0 rfl ?_
    refine G.getB (pc := 89) cx dX0_tellCoins_89 4 wm_fl_X0_46 (by decide) rfl ?_
    refine G.getT (pc := 92) cx dX0_tellCoins_92 5 wm_fl_X0_129 (by decide) rfl ?_
    refine G.iret (pc := 95) cx rfl dX0_tellCoins_95 ?_ ?_ rfl
    · refine congrArg (fun x => some (Value.int x)) ?_
      (try clear hin9); (try clear cx); simp [cCoins, *]
    · rfl
  by_cases sw1_14 : q = 14
  · subst sw1_14
    refine G.tableIn (pc := 1) cx dX0_tellCoins_1 (off := 95) (tgt := 96) (by decide) (by decide) (by decide) (by decide) ?_
    refine G.aload_n (pc := 96) cx dX0_tellCoins_96 rfl 0 rfl ?_
    refine G.getB (pc := 97) cx dX0_tellCoins_97 4 wm_fl_X0_46 (by decide) rfl ?_
    refine G.getT (pc := 100) cx dX0_tellCoins_100 6 wm_fl_X0_173 (by decide) rfl ?_
    refine G.iret (pc := 103) cx rfl dX0_tellCoins_103 ?_ ?_ rfl
    · refine congrArg (fun x => some (Value.int x)) ?_
      (try clear hin9); (try clear cx); simp [cCoins, *]
    · rfl
  by_cases sw1_15 : q = 15
  · subst sw1_15
    refine G.tableIn (pc := 1) cx dX0_tellCoins_1 (off := 103) (tgt := 104) (by decide) (by decide) (by decide) (by decide) ?_
    refine G.ldc (pc := 104) cx dX0_tellCoins_104 (v := 100000) wm_ct_X0_253 ?_
    refine G.aload_n (pc := 106) cx dX0_tellCoins_106 rfl 0 rfl ?_
    refine G.getB (pc := 107) cx dX0_tellCoins_107 4 wm_fl_X0_46 (by decide) rfl ?_
    refine G.getT (pc := 110) cx dX0_tellCoins_110 7 wm_fl_X0_186 (by decide) rfl ?_
    refine G.iadd (pc := 113) cx dX0_tellCoins_113 ?_
    refine G.iret (pc := 114) cx rfl dX0_tellCoins_114 ?_ ?_ rfl
    · refine congrArg (fun x => some (Value.int x)) ?_
      (try clear hin9); (try clear cx); simp [cCoins, *]
    · rfl
  refine G.tableDef (pc := 1) cx dX0_tellCoins_1 (tgt := 115) ?_ (by decide) ?_
  · have g0 := sw_ne sw1_8 (by decide : (8 : Int) = (8 : Int32).toInt); have g1 := sw_ne sw1_9 (by decide : (9 : Int) = (9 : Int32).toInt); have g2 := sw_ne sw1_10 (by decide : (10 : Int) = (10 : Int32).toInt); have g3 := sw_ne sw1_11 (by decide : (11 : Int) = (11 : Int32).toInt); have g4 := sw_ne sw1_12 (by decide : (12 : Int) = (12 : Int32).toInt); have g5 := sw_ne sw1_13 (by decide : (13 : Int) = (13 : Int32).toInt); have g6 := sw_ne sw1_14 (by decide : (14 : Int) = (14 : Int32).toInt); have g7 := sw_ne sw1_15 (by decide : (15 : Int) = (15 : Int32).toInt)
    rcases (show q.toInt < 8 ∨ 15 < q.toInt by omega) with h | h
    · exact Or.inl h
    · exact Or.inr (Or.inl h)
  refine G.ldc (pc := 115) cx dX0_tellCoins_115 (v := (-1000001)) wm_ct_X0_84 ?_
  refine G.iret (pc := 117) cx rfl dX0_tellCoins_117 ?_ ?_ rfl
  · refine congrArg (fun x => some (Value.int x)) ?_
    (try clear hin9); (try clear cx); simp [cCoins, *]
  · rfl
set_option maxHeartbeats 4000000 in
set_option maxRecDepth 100000 in
theorem c_X0_tell (l : Launch) (K : KT) (sz : Nat) (b : Nat) (z : Zt) (V : VW) (q : Int32) (N : Nat) (hN : z 194 = nI N) (h16 : N ≤ 16) : Ct l K yX0_tell cX0_tell 2 (some .int) 1 [.ref b, .int q] (bw K b z V) sz (some (.int (cTell z N q))) (bw K b z V) sz 0 0 := by
  refine Ct.ofG (by decide) (Nat.le_of_ble_eq_true rfl) ?_
  intro p9 e9 s9 m9 a9 b9 t9 c9 cx hin9
  refine G.lv0 (lv2 := [(0, .ref b), (1, .int q)]) rfl ?_
  refine G.iload_n (pc := 0) cx dX0_tell_0 rfl 1 rfl ?_
  by_cases sw1_0 : q = 0
  · subst sw1_0
    refine G.tableIn (pc := 1) cx dX0_tell_1 (off := 107) (tgt := 108) (by decide) (by decide) (by decide) (by decide) ?_
    refine G.aload_n (pc := 108) cx dX0_tell_108 rfl 0 rfl ?_
    refine G.getB (pc := 109) cx dX0_tell_109 6 wm_fl_X0_67 (by decide) rfl ?_
    refine G.iret (pc := 112) cx rfl dX0_tell_112 ?_ ?_ rfl
    · refine congrArg (fun x => some (Value.int x)) ?_
      (try clear hin9); (try clear cx); first | (simp [cTell, *]; done) | (simp [cTell, hN]; done)
    · rfl
  by_cases sw1_1 : q = 1
  · subst sw1_1
    refine G.tableIn (pc := 1) cx dX0_tell_1 (off := 112) (tgt := 113) (by decide) (by decide) (by decide) (by decide) ?_
    refine G.aload_n (pc := 113) cx dX0_tell_113 rfl 0 rfl ?_
    refine G.getB (pc := 114) cx dX0_tell_114 9 wm_fl_X0_76 (by decide) rfl ?_
    refine G.if_eq (pc := 117) cx dX0_tell_117 (tgt := 124) (by decide) (fun cq117 => ?_) (fun cq117 => ?_)
    · skip
      refine G.iconst (pc := 124) cx dX0_tell_124 (v := 0) (by decide) ?_
      refine G.iret (pc := 125) cx rfl dX0_tell_125 ?_ ?_ rfl
      · refine congrArg (fun x => some (Value.int x)) ?_
        (try clear hin9); (try clear cx); first | (simp [cTell, *]; done) | (simp [cTell, hN]; done)
      · rfl
    · skip
      refine G.iconst (pc := 120) cx dX0_tell_120 (v := 1) (by decide) ?_
      refine G.goto (pc := 121) cx dX0_tell_121 (tgt := 125) (by decide) ?_
      refine G.iret (pc := 125) cx rfl dX0_tell_125 ?_ ?_ rfl
      · refine congrArg (fun x => some (Value.int x)) ?_
        (try clear hin9); (try clear cx); first | (simp [cTell, *]; done) | (simp [cTell, hN]; done)
      · rfl
  by_cases sw1_2 : q = 2
  · subst sw1_2
    refine G.tableIn (pc := 1) cx dX0_tell_1 (off := 125) (tgt := 126) (by decide) (by decide) (by decide) (by decide) ?_
    refine G.aload_n (pc := 126) cx dX0_tell_126 rfl 0 rfl ?_
    refine G.getB (pc := 127) cx dX0_tell_127 7 wm_fl_X0_70 (by decide) rfl ?_
    refine G.iret (pc := 130) cx rfl dX0_tell_130 ?_ ?_ rfl
    · refine congrArg (fun x => some (Value.int x)) ?_
      (try clear hin9); (try clear cx); first | (simp [cTell, *]; done) | (simp [cTell, hN]; done)
    · rfl
  by_cases sw1_3 : q = 3
  · subst sw1_3
    refine G.tableIn (pc := 1) cx dX0_tell_1 (off := 130) (tgt := 131) (by decide) (by decide) (by decide) (by decide) ?_
    refine G.aload_n (pc := 131) cx dX0_tell_131 rfl 0 rfl ?_
    refine G.getB (pc := 132) cx dX0_tell_132 8 wm_fl_X0_73 (by decide) rfl ?_
    refine G.iret (pc := 135) cx rfl dX0_tell_135 ?_ ?_ rfl
    · refine congrArg (fun x => some (Value.int x)) ?_
      (try clear hin9); (try clear cx); first | (simp [cTell, *]; done) | (simp [cTell, hN]; done)
    · rfl
  by_cases sw1_4 : q = 4
  · subst sw1_4
    refine G.tableIn (pc := 1) cx dX0_tell_1 (off := 135) (tgt := 136) (by decide) (by decide) (by decide) (by decide) ?_
    refine G.aload_n (pc := 136) cx dX0_tell_136 rfl 0 rfl ?_
    refine G.getB (pc := 137) cx dX0_tell_137 5 wm_fl_X0_63 (by decide) (congrArg (fun x => some (Value.int x)) (hN)) ?_
    refine G.iret (pc := 140) cx rfl dX0_tell_140 ?_ ?_ rfl
    · refine congrArg (fun x => some (Value.int x)) ?_
      (try clear hin9); (try clear cx); first | (simp [cTell, *]; done) | (simp [cTell, hN]; done)
    · rfl
  by_cases sw1_5 : q = 5
  · subst sw1_5
    refine G.tableIn (pc := 1) cx dX0_tell_1 (off := 140) (tgt := 141) (by decide) (by decide) (by decide) (by decide) ?_
    refine G.aload_n (pc := 141) cx dX0_tell_141 rfl 0 rfl ?_
    refine G.iconst (pc := 142) cx dX0_tell_142 (v := 0) (by decide) ?_
    refine G.callV0 (pc := 143) (rest := []) (st1 := [.int (zSet z 0 N)]) cx (c_X0_setOf l K sz b z V 0 N (by assumption) (by omega)) ok_X0_setOf dX0_tell_143 wm_ml_X0_183 rfl bw_b rfl rfl (Nat.le_of_ble_eq_true rfl) ⟨Nat.le_of_ble_eq_true rfl, Nat.le_of_ble_eq_true rfl⟩ rfl ?_
    refine G.iret (pc := 146) cx rfl dX0_tell_146 ?_ ?_ rfl
    · refine congrArg (fun x => some (Value.int x)) ?_
      (try clear hin9); (try clear cx); first | (simp [cTell, *]; done) | (simp [cTell, hN]; done)
    · rfl
  by_cases sw1_6 : q = 6
  · subst sw1_6
    refine G.tableIn (pc := 1) cx dX0_tell_1 (off := 146) (tgt := 147) (by decide) (by decide) (by decide) (by decide) ?_
    refine G.aload_n (pc := 147) cx dX0_tell_147 rfl 0 rfl ?_
    refine G.iconst (pc := 148) cx dX0_tell_148 (v := 1) (by decide) ?_
    refine G.callV0 (pc := 149) (rest := []) (st1 := [.int (zSet z 1 N)]) cx (c_X0_setOf l K sz b z V 1 N (by assumption) (by omega)) ok_X0_setOf dX0_tell_149 wm_ml_X0_183 rfl bw_b rfl rfl (Nat.le_of_ble_eq_true rfl) ⟨Nat.le_of_ble_eq_true rfl, Nat.le_of_ble_eq_true rfl⟩ rfl ?_
    refine G.iret (pc := 152) cx rfl dX0_tell_152 ?_ ?_ rfl
    · refine congrArg (fun x => some (Value.int x)) ?_
      (try clear hin9); (try clear cx); first | (simp [cTell, *]; done) | (simp [cTell, hN]; done)
    · rfl
  by_cases sw1_7 : q = 7
  · subst sw1_7
    refine G.tableIn (pc := 1) cx dX0_tell_1 (off := 152) (tgt := 153) (by decide) (by decide) (by decide) (by decide) ?_
    refine G.aload_n (pc := 153) cx dX0_tell_153 rfl 0 rfl ?_
    refine G.iconst (pc := 154) cx dX0_tell_154 (v := 2) (by decide) ?_
    refine G.callV0 (pc := 155) (rest := []) (st1 := [.int (zSet z 2 N)]) cx (c_X0_setOf l K sz b z V 2 N (by assumption) (by omega)) ok_X0_setOf dX0_tell_155 wm_ml_X0_183 rfl bw_b rfl rfl (Nat.le_of_ble_eq_true rfl) ⟨Nat.le_of_ble_eq_true rfl, Nat.le_of_ble_eq_true rfl⟩ rfl ?_
    refine G.iret (pc := 158) cx rfl dX0_tell_158 ?_ ?_ rfl
    · refine congrArg (fun x => some (Value.int x)) ?_
      (try clear hin9); (try clear cx); first | (simp [cTell, *]; done) | (simp [cTell, hN]; done)
    · rfl
  by_cases sw1_16 : q = 16
  · subst sw1_16
    refine G.tableIn (pc := 1) cx dX0_tell_1 (off := 158) (tgt := 159) (by decide) (by decide) (by decide) (by decide) ?_
    refine G.aload_n (pc := 159) cx dX0_tell_159 rfl 0 rfl ?_
    refine G.getB (pc := 160) cx dX0_tell_160 3 wm_fl_X0_39 (by decide) rfl ?_
    refine G.getE (pc := 163) cx dX0_tell_163 3 wm_fl_X0_244 (by decide) rfl ?_
    refine G.iret (pc := 166) cx rfl dX0_tell_166 ?_ ?_ rfl
    · refine congrArg (fun x => some (Value.int x)) ?_
      (try clear hin9); (try clear cx); first | (simp [cTell, *]; done) | (simp [cTell, hN]; done)
    · rfl
  by_cases sw1_20 : q = 20
  · subst sw1_20
    refine G.tableIn (pc := 1) cx dX0_tell_1 (off := 166) (tgt := 167) (by decide) (by decide) (by decide) (by decide) ?_
    refine G.aload_n (pc := 167) cx dX0_tell_167 rfl 0 rfl ?_
    refine G.iconst (pc := 168) cx dX0_tell_168 (v := 0) (by decide) ?_
    refine G.callV0 (pc := 169) (rest := []) (st1 := [.int (z (203 + 0))]) cx (c_X0_setting l K sz b z V 0 (by omega)) ok_X0_setting dX0_tell_169 wm_ml_X0_105 rfl bw_b rfl rfl (Nat.le_of_ble_eq_true rfl) ⟨Nat.le_of_ble_eq_true rfl, Nat.le_of_ble_eq_true rfl⟩ rfl ?_
    refine G.iret (pc := 172) cx rfl dX0_tell_172 ?_ ?_ rfl
    · refine congrArg (fun x => some (Value.int x)) ?_
      (try clear hin9); (try clear cx); first | (simp [cTell, *]; done) | (simp [cTell, hN]; done)
    · rfl
  by_cases sw1_21 : q = 21
  · subst sw1_21
    refine G.tableIn (pc := 1) cx dX0_tell_1 (off := 172) (tgt := 173) (by decide) (by decide) (by decide) (by decide) ?_
    refine G.aload_n (pc := 173) cx dX0_tell_173 rfl 0 rfl ?_
    refine G.iconst (pc := 174) cx dX0_tell_174 (v := 1) (by decide) ?_
    refine G.callV0 (pc := 175) (rest := []) (st1 := [.int (z (203 + 1))]) cx (c_X0_setting l K sz b z V 1 (by omega)) ok_X0_setting dX0_tell_175 wm_ml_X0_105 rfl bw_b rfl rfl (Nat.le_of_ble_eq_true rfl) ⟨Nat.le_of_ble_eq_true rfl, Nat.le_of_ble_eq_true rfl⟩ rfl ?_
    refine G.iret (pc := 178) cx rfl dX0_tell_178 ?_ ?_ rfl
    · refine congrArg (fun x => some (Value.int x)) ?_
      (try clear hin9); (try clear cx); first | (simp [cTell, *]; done) | (simp [cTell, hN]; done)
    · rfl
  by_cases sw1_22 : q = 22
  · subst sw1_22
    refine G.tableIn (pc := 1) cx dX0_tell_1 (off := 178) (tgt := 179) (by decide) (by decide) (by decide) (by decide) ?_
    refine G.aload_n (pc := 179) cx dX0_tell_179 rfl 0 rfl ?_
    refine G.iconst (pc := 180) cx dX0_tell_180 (v := 2) (by decide) ?_
    refine G.callV0 (pc := 181) (rest := []) (st1 := [.int (z (203 + 2))]) cx (c_X0_setting l K sz b z V 2 (by omega)) ok_X0_setting dX0_tell_181 wm_ml_X0_105 rfl bw_b rfl rfl (Nat.le_of_ble_eq_true rfl) ⟨Nat.le_of_ble_eq_true rfl, Nat.le_of_ble_eq_true rfl⟩ rfl ?_
    refine G.iret (pc := 184) cx rfl dX0_tell_184 ?_ ?_ rfl
    · refine congrArg (fun x => some (Value.int x)) ?_
      (try clear hin9); (try clear cx); first | (simp [cTell, *]; done) | (simp [cTell, hN]; done)
    · rfl
  refine G.tableDef (pc := 1) cx dX0_tell_1 (tgt := 185) ?_ (by decide) ?_
  · have g0 := sw_ne sw1_0 (by decide : (0 : Int) = (0 : Int32).toInt); have g1 := sw_ne sw1_1 (by decide : (1 : Int) = (1 : Int32).toInt); have g2 := sw_ne sw1_2 (by decide : (2 : Int) = (2 : Int32).toInt); have g3 := sw_ne sw1_3 (by decide : (3 : Int) = (3 : Int32).toInt); have g4 := sw_ne sw1_4 (by decide : (4 : Int) = (4 : Int32).toInt); have g5 := sw_ne sw1_5 (by decide : (5 : Int) = (5 : Int32).toInt); have g6 := sw_ne sw1_6 (by decide : (6 : Int) = (6 : Int32).toInt); have g7 := sw_ne sw1_7 (by decide : (7 : Int) = (7 : Int32).toInt); have g8 := sw_ne sw1_16 (by decide : (16 : Int) = (16 : Int32).toInt); have g9 := sw_ne sw1_20 (by decide : (20 : Int) = (20 : Int32).toInt); have g10 := sw_ne sw1_21 (by decide : (21 : Int) = (21 : Int32).toInt); have g11 := sw_ne sw1_22 (by decide : (22 : Int) = (22 : Int32).toInt)
    rcases (show q.toInt < 0 ∨ 22 < q.toInt ∨ q.toInt = 8 ∨ q.toInt = 9 ∨ q.toInt = 10 ∨ q.toInt = 11 ∨ q.toInt = 12 ∨ q.toInt = 13 ∨ q.toInt = 14 ∨ q.toInt = 15 ∨ q.toInt = 17 ∨ q.toInt = 18 ∨ q.toInt = 19 by omega) with h | h | h | h | h | h | h | h | h | h | h | h | h
    · exact Or.inl h
    · exact Or.inr (Or.inl h)
    · exact Or.inr (Or.inr (by rw [h]; decide))
    · exact Or.inr (Or.inr (by rw [h]; decide))
    · exact Or.inr (Or.inr (by rw [h]; decide))
    · exact Or.inr (Or.inr (by rw [h]; decide))
    · exact Or.inr (Or.inr (by rw [h]; decide))
    · exact Or.inr (Or.inr (by rw [h]; decide))
    · exact Or.inr (Or.inr (by rw [h]; decide))
    · exact Or.inr (Or.inr (by rw [h]; decide))
    · exact Or.inr (Or.inr (by rw [h]; decide))
    · exact Or.inr (Or.inr (by rw [h]; decide))
    · exact Or.inr (Or.inr (by rw [h]; decide))
  refine G.aload_n (pc := 185) cx dX0_tell_185 rfl 0 rfl ?_
  refine G.iload_n (pc := 186) cx dX0_tell_186 rfl 1 rfl ?_
  refine G.callV0 (pc := 187) (rest := []) (st1 := [.int (cCoins z q)]) cx (c_X0_tellCoins l K sz b z V q) ok_X0_tellCoins dX0_tell_187 wm_ml_X0_247 rfl bw_b rfl rfl (Nat.le_of_ble_eq_true rfl) ⟨Nat.le_of_ble_eq_true rfl, Nat.le_of_ble_eq_true rfl⟩ rfl ?_
  refine G.iret (pc := 190) cx rfl dX0_tell_190 ?_ ?_ rfl
  · refine congrArg (fun x => some (Value.int x)) ?_
    (try clear hin9); (try clear cx); first | (simp [cTell, *]; done) | (simp [cTell, hN]; done)
  · rfl
set_option maxHeartbeats 4000000 in
set_option maxRecDepth 100000 in
theorem c_X0_couldBuy (l : Launch) (K : KT) (sz : Nat) (b : Nat) (z : Zt) (V : VW) (a : Int32) (i : Int32) (N : Nat) (hN : z 194 = nI N) (h16 : N ≤ 16) : Ct l K yX0_couldBuy cX0_couldBuy 6 (some .int) 2 [.ref b, .int a, .int i] (bw K b z V) sz (some (.int (cMost z a i))) (bw K b z V) sz 0 0 := by
  refine Ct.ofG (by decide) (Nat.le_of_ble_eq_true rfl) ?_
  intro p9 e9 s9 m9 a9 b9 t9 c9 cx hin9
  refine G.lv0 (lv2 := [(0, .ref b), (1, .int a), (2, .int i)]) rfl ?_
  by_cases hS : 0 ≤ a ∧ a ≤ z 194 - 1
  · skip
    obtain ⟨k, hk, rfl⟩ := sail_of hN h16 hS
    have tk : (nI k).toNatClampNeg = k := nI_clamp (by omega)
    refine G.aload_n (pc := 0) cx dX0_couldBuy_0 rfl 0 rfl ?_
    refine G.iload_n (pc := 1) cx dX0_couldBuy_1 rfl 1 rfl ?_
    refine G.callV0 (pc := 2) (rest := []) (st1 := [.ref (b + 2 + k)]) cx (c_X0_findSailor l K sz b z V N k (by assumption) (by omega) (by omega)) ok_X0_findSailor dX0_couldBuy_2 wm_ml_X0_115 rfl bw_b rfl rfl (Nat.le_of_ble_eq_true rfl) ⟨Nat.le_of_ble_eq_true rfl, Nat.le_of_ble_eq_true rfl⟩ rfl ?_
    refine G.astore_n (pc := 5) cx dX0_couldBuy_5 rfl (by decide) rfl ?_
    by_cases hI : 0 ≤ i ∧ i ≤ 5
    · skip
      obtain ⟨j, hj, rfl⟩ := item_of hI
      have tj : (nI j).toNatClampNeg = j := nI_clamp (by omega)
      refine G.aload_n (pc := 6) cx dX0_couldBuy_6 rfl 1 rfl ?_
      refine G.iload_n (pc := 7) cx dX0_couldBuy_7 rfl 3 rfl ?_
      refine G.callV0 (pc := 8) (rest := []) (st1 := [.ref (b + 19 + j)]) cx (c_X0_findItem l K sz b z V j (by omega)) ok_X0_findItem dX0_couldBuy_8 wm_ml_X0_91 rfl bw_b rfl rfl (Nat.le_of_ble_eq_true rfl) ⟨Nat.le_of_ble_eq_true rfl, Nat.le_of_ble_eq_true rfl⟩ rfl ?_
      refine G.astore (pc := 11) cx dX0_couldBuy_11 (by decide) rfl ?_
      refine G.aload_n (pc := 13) cx dX0_couldBuy_13 rfl 1 rfl ?_
      refine G.ifnull (pc := 14) cx dX0_couldBuy_14 ?_
      refine G.aload (pc := 17) cx dX0_couldBuy_17 0 rfl ?_
      refine G.ifnonnull (pc := 19) cx dX0_couldBuy_19 (tgt := 25) (by decide) ?_
      refine G.aload_n (pc := 25) cx dX0_couldBuy_25 rfl 1 rfl ?_
      refine G.callV0 (pc := 26) (rest := []) (st1 := [.int (cBal z k)]) cx (c_X6_balance l K sz b z V k (by omega)) ok_X6_balance dX0_couldBuy_26 wm_ml_X0_139 rfl (bw_s (by omega)) rfl rfl (Nat.le_of_ble_eq_true rfl) ⟨Nat.le_of_ble_eq_true rfl, Nat.le_of_ble_eq_true rfl⟩ rfl ?_
      refine G.aload_n (pc := 29) cx dX0_couldBuy_29 rfl 2 rfl ?_
      refine G.iconst (pc := 30) cx dX0_couldBuy_30 (v := 0) (by decide) ?_
      refine G.callV0 (pc := 31) (rest := [.int (cBal z k)]) (st1 := [.int (z (203 + 0)), .int (cBal z k)]) cx (c_X0_setting l K sz b z V 0 (by omega)) ok_X0_setting dX0_couldBuy_31 wm_ml_X0_105 rfl bw_b rfl rfl (Nat.le_of_ble_eq_true rfl) ⟨Nat.le_of_ble_eq_true rfl, Nat.le_of_ble_eq_true rfl⟩ rfl ?_
      refine G.iadd (pc := 34) cx dX0_couldBuy_34 ?_
      refine G.istore (pc := 35) cx dX0_couldBuy_35 (by decide) rfl ?_
      refine G.aload_n (pc := 37) cx dX0_couldBuy_37 rfl 2 rfl ?_
      refine G.getS (pc := 38) cx dX0_couldBuy_38 2 wm_fl_X0_136 (by decide) (by omega) rfl ?_
      refine G.if_ne (pc := 41) cx dX0_couldBuy_41 (tgt := 57) (by decide) (fun cq41 => ?_) (fun cq41 => ?_)
      · skip
        refine G.iconst (pc := 57) cx dX0_couldBuy_57 (v := 0) (by decide) ?_
        refine G.iret (pc := 58) cx rfl dX0_couldBuy_58 ?_ ?_ rfl
        · refine congrArg (fun x => some (Value.int x)) ?_
          (try clear hin9); (try clear cx); (try clear hN); first | (simp [cMost, *]; done) | (simp [cMost, cMost1, *]; done) | (simp [cMost, cMost1, mn, *]; done) | (simp_all [cMost, cMost1, mn]; done)
        · rfl
      · skip
        refine G.aload (pc := 44) cx dX0_couldBuy_44 1 rfl ?_
        refine G.getI (pc := 46) cx dX0_couldBuy_46 1 wm_fl_X0_112 (by decide) (by omega) rfl ?_
        refine G.if_le (pc := 49) cx dX0_couldBuy_49 (tgt := 57) (by decide) (fun cq49 => ?_) (fun cq49 => ?_)
        · skip
          have nq49 := Int32.not_lt.mpr cq49
          refine G.iconst (pc := 57) cx dX0_couldBuy_57 (v := 0) (by decide) ?_
          refine G.iret (pc := 58) cx rfl dX0_couldBuy_58 ?_ ?_ rfl
          · refine congrArg (fun x => some (Value.int x)) ?_
            (try clear hin9); (try clear cx); (try clear hN); first | (simp [cMost, *]; done) | (simp [cMost, cMost1, *]; done) | (simp [cMost, cMost1, mn, *]; done) | (simp_all [cMost, cMost1, mn]; done)
          · rfl
        · skip
          have nq49 := Int32.not_le.mp cq49
          have hne : ¬ z (160 + 5 * j + 1) = 0 := fun e => cq49 (by rw [e]; decide)
          refine G.iload (pc := 52) cx dX0_couldBuy_52 0 rfl ?_
          refine G.if_ge (pc := 54) cx dX0_couldBuy_54 (tgt := 59) (by decide) (fun cq54 => ?_) (fun cq54 => ?_)
          · skip
            have nq54 := Int32.not_lt.mpr cq54
            refine G.iload (pc := 59) cx dX0_couldBuy_59 0 rfl ?_
            refine G.aload (pc := 61) cx dX0_couldBuy_61 1 rfl ?_
            refine G.getI (pc := 63) cx dX0_couldBuy_63 1 wm_fl_X0_112 (by decide) (by omega) rfl ?_
            refine G.idiv (pc := 66) cx dX0_couldBuy_66 hne ?_
            refine G.aload (pc := 67) cx dX0_couldBuy_67 1 rfl ?_
            refine G.getI (pc := 69) cx dX0_couldBuy_69 0 wm_fl_X0_95 (by decide) (by omega) rfl ?_
            refine G.mmin (pc := 72) cx dX0_couldBuy_72 wm_ml_X0_143 ⟨Nat.le_of_ble_eq_true rfl, Nat.le_of_ble_eq_true rfl⟩ (Nat.le_of_ble_eq_true rfl) ?_
            refine G.bipush (pc := 75) cx dX0_couldBuy_75 (v := 99) (by decide) ?_
            refine G.mmin (pc := 77) cx dX0_couldBuy_77 wm_ml_X0_143 ⟨Nat.le_of_ble_eq_true rfl, Nat.le_of_ble_eq_true rfl⟩ (Nat.le_of_ble_eq_true rfl) ?_
            refine G.iret (pc := 80) cx rfl dX0_couldBuy_80 ?_ ?_ rfl
            · refine congrArg (fun x => some (Value.int x)) ?_
              (try clear hin9); (try clear cx); (try clear hN); first | (simp [cMost, *]; done) | (simp [cMost, cMost1, *]; done) | (simp [cMost, cMost1, mn, *]; done) | (simp_all [cMost, cMost1, mn]; done)
            · rfl
          · skip
            have nq54 := Int32.not_le.mp cq54
            refine G.iconst (pc := 57) cx dX0_couldBuy_57 (v := 0) (by decide) ?_
            refine G.iret (pc := 58) cx rfl dX0_couldBuy_58 ?_ ?_ rfl
            · refine congrArg (fun x => some (Value.int x)) ?_
              (try clear hin9); (try clear cx); (try clear hN); first | (simp [cMost, *]; done) | (simp [cMost, cMost1, *]; done) | (simp [cMost, cMost1, mn, *]; done) | (simp_all [cMost, cMost1, mn]; done)
            · rfl
    · skip
      refine G.aload_n (pc := 6) cx dX0_couldBuy_6 rfl 1 rfl ?_
      refine G.iload_n (pc := 7) cx dX0_couldBuy_7 rfl 3 rfl ?_
      refine G.callV0 (pc := 8) (rest := []) (st1 := [.null]) cx (c_X0_findItemN l K sz b z V i (by assumption)) ok_X0_findItem dX0_couldBuy_8 wm_ml_X0_91 rfl bw_b rfl rfl (Nat.le_of_ble_eq_true rfl) ⟨Nat.le_of_ble_eq_true rfl, Nat.le_of_ble_eq_true rfl⟩ rfl ?_
      refine G.astoreN (pc := 11) cx dX0_couldBuy_11 (by decide) rfl ?_
      refine G.aload_n (pc := 13) cx dX0_couldBuy_13 rfl 1 rfl ?_
      refine G.ifnull (pc := 14) cx dX0_couldBuy_14 ?_
      refine G.aloadN (pc := 17) cx dX0_couldBuy_17 0 rfl ?_
      refine G.ifnonnullN (pc := 19) cx dX0_couldBuy_19 ?_
      refine G.ldc (pc := 22) cx dX0_couldBuy_22 (v := (-1000001)) wm_ct_X0_84 ?_
      refine G.iret (pc := 24) cx rfl dX0_couldBuy_24 ?_ ?_ rfl
      · refine congrArg (fun x => some (Value.int x)) ?_
        (try clear hin9); (try clear cx); (try clear hN); first | (simp [cMost, *]; done) | (simp [cMost, cMost1, *]; done) | (simp [cMost, cMost1, mn, *]; done) | (simp_all [cMost, cMost1, mn]; done)
      · rfl
  · skip
    refine G.aload_n (pc := 0) cx dX0_couldBuy_0 rfl 0 rfl ?_
    refine G.iload_n (pc := 1) cx dX0_couldBuy_1 rfl 1 rfl ?_
    refine G.callV0 (pc := 2) (rest := []) (st1 := [.null]) cx (c_X0_findSailorN l K sz b z V N a (by assumption) (by omega) (by assumption)) ok_X0_findSailor dX0_couldBuy_2 wm_ml_X0_115 rfl bw_b rfl rfl (Nat.le_of_ble_eq_true rfl) ⟨Nat.le_of_ble_eq_true rfl, Nat.le_of_ble_eq_true rfl⟩ rfl ?_
    refine G.astore_nN (pc := 5) cx dX0_couldBuy_5 rfl (by decide) rfl ?_
    by_cases hI : 0 ≤ i ∧ i ≤ 5
    · skip
      obtain ⟨j, hj, rfl⟩ := item_of hI
      have tj : (nI j).toNatClampNeg = j := nI_clamp (by omega)
      refine G.aload_n (pc := 6) cx dX0_couldBuy_6 rfl 1 rfl ?_
      refine G.iload_n (pc := 7) cx dX0_couldBuy_7 rfl 3 rfl ?_
      refine G.callV0 (pc := 8) (rest := []) (st1 := [.ref (b + 19 + j)]) cx (c_X0_findItem l K sz b z V j (by omega)) ok_X0_findItem dX0_couldBuy_8 wm_ml_X0_91 rfl bw_b rfl rfl (Nat.le_of_ble_eq_true rfl) ⟨Nat.le_of_ble_eq_true rfl, Nat.le_of_ble_eq_true rfl⟩ rfl ?_
      refine G.astore (pc := 11) cx dX0_couldBuy_11 (by decide) rfl ?_
      refine G.aload_nN (pc := 13) cx dX0_couldBuy_13 rfl 1 rfl ?_
      refine G.ifnullN (pc := 14) cx dX0_couldBuy_14 (tgt := 22) (by decide) ?_
      refine G.ldc (pc := 22) cx dX0_couldBuy_22 (v := (-1000001)) wm_ct_X0_84 ?_
      refine G.iret (pc := 24) cx rfl dX0_couldBuy_24 ?_ ?_ rfl
      · refine congrArg (fun x => some (Value.int x)) ?_
        (try clear hin9); (try clear cx); (try clear hN); first | (simp [cMost, *]; done) | (simp [cMost, cMost1, *]; done) | (simp [cMost, cMost1, mn, *]; done) | (simp_all [cMost, cMost1, mn]; done)
      · rfl
    · skip
      refine G.aload_n (pc := 6) cx dX0_couldBuy_6 rfl 1 rfl ?_
      refine G.iload_n (pc := 7) cx dX0_couldBuy_7 rfl 3 rfl ?_
      refine G.callV0 (pc := 8) (rest := []) (st1 := [.null]) cx (c_X0_findItemN l K sz b z V i (by assumption)) ok_X0_findItem dX0_couldBuy_8 wm_ml_X0_91 rfl bw_b rfl rfl (Nat.le_of_ble_eq_true rfl) ⟨Nat.le_of_ble_eq_true rfl, Nat.le_of_ble_eq_true rfl⟩ rfl ?_
      refine G.astoreN (pc := 11) cx dX0_couldBuy_11 (by decide) rfl ?_
      refine G.aload_nN (pc := 13) cx dX0_couldBuy_13 rfl 1 rfl ?_
      refine G.ifnullN (pc := 14) cx dX0_couldBuy_14 (tgt := 22) (by decide) ?_
      refine G.ldc (pc := 22) cx dX0_couldBuy_22 (v := (-1000001)) wm_ct_X0_84 ?_
      refine G.iret (pc := 24) cx rfl dX0_couldBuy_24 ?_ ?_ rfl
      · refine congrArg (fun x => some (Value.int x)) ?_
        (try clear hin9); (try clear cx); (try clear hN); first | (simp [cMost, *]; done) | (simp [cMost, cMost1, *]; done) | (simp [cMost, cMost1, mn, *]; done) | (simp_all [cMost, cMost1, mn]; done)
      · rfl
set_option maxHeartbeats 4000000 in
set_option maxRecDepth 100000 in
theorem c_X0_changeSetting (l : Launch) (K : KT) (sz : Nat) (b : Nat) (z : Zt) (V : VW) (q : Int32) (v : Int32)  : Ct l K yX0_changeSetting cX0_changeSetting 4 (some .int) 1 [.ref b, .int q, .int v] (bw K b z V) sz (some (.int (if cNoSet q v < 0 then cNoSet q v else z (203 + (q).toNatClampNeg)))) (bw K b (if cNoSet q v < 0 then z else upd z (203 + (q).toNatClampNeg) v) V) sz 0 0 := by
  refine Ct.ofG (by decide) (Nat.le_of_ble_eq_true rfl) ?_
  intro p9 e9 s9 m9 a9 b9 t9 c9 cx hin9
  refine G.lv0 (lv2 := [(0, .ref b), (1, .int q), (2, .int v)]) rfl ?_
  by_cases hQ : 0 ≤ q ∧ q ≤ 2
  · skip
    obtain ⟨j, hj, rfl⟩ := in_of (n := 2) (by decide) hQ
    have tj : (nI j).toNatClampNeg = j := nI_clamp (by omega)
    refine G.iload_n (pc := 0) cx dX0_changeSetting_0 rfl 1 rfl ?_
    refine G.if_ltN (pc := 1) cx j (by omega) dX0_changeSetting_1 (tgt := 34) (by decide) ?_
    refine G.iload_n (pc := 4) cx dX0_changeSetting_4 rfl 1 rfl ?_
    refine G.aload_n (pc := 5) cx dX0_changeSetting_5 rfl 0 rfl ?_
    refine G.getB (pc := 6) cx dX0_changeSetting_6 2 wm_fl_X0_29 (by decide) rfl ?_
    refine G.alenV (pc := 9) cx dX0_changeSetting_9 0 rfl bw_set (v := 3) rfl ?_
    refine G.icmp_geN (pc := 10) cx j 3 (by omega) (by omega) dX0_changeSetting_10 (tgt := 34) (by decide) (fun cq10 => ?_) (fun cq10 => ?_)
    · skip
      have nq10 := Nat.not_lt.mpr cq10
      exact absurd cq10 (by omega)
    · skip
      have nq10 := Nat.not_le.mpr cq10
      refine G.iload_n (pc := 13) cx dX0_changeSetting_13 rfl 1 rfl ?_
      refine G.getsH (pc := 14) cx rfl dX0_changeSetting_14 ?_
      refine G.tlenH (pc := 17) cx dX0_changeSetting_17 ?_
      refine G.icmp_geN (pc := 18) cx j 3 (by omega) (by omega) dX0_changeSetting_18 (tgt := 34) (by decide) (fun cq18 => ?_) (fun cq18 => ?_)
      · skip
        have nq18 := Nat.not_lt.mpr cq18
        exact absurd cq18 (by omega)
      · skip
        have nq18 := Nat.not_le.mpr cq18
        refine G.iload_n (pc := 21) cx dX0_changeSetting_21 rfl 2 rfl ?_
        refine G.iconst (pc := 22) cx dX0_changeSetting_22 (v := 0) (by decide) ?_
        refine G.getsH (pc := 23) cx rfl dX0_changeSetting_23 ?_
        refine G.iload_n (pc := 26) cx dX0_changeSetting_26 rfl 1 rfl ?_
        refine G.taldH (pc := 27) cx dX0_changeSetting_27 (j := j) rfl (by omega) ?_
        refine G.callSN0 (pc := 28) (rest := []) (st1 := [.int (b2 (0 ≤ v ∧ v ≤ (hS j)))]) cx (c_X9_within l K sz v 0 (hS j) (bw K b z V)) ok_X9_within dX0_changeSetting_28 (by decide +kernel)  rfl (Nat.le_of_ble_eq_true rfl) ⟨Nat.le_of_ble_eq_true rfl, Nat.le_of_ble_eq_true rfl⟩ rfl ?_
        refine G.if_neB (pc := 31) cx dX0_changeSetting_31 (tgt := 37) (by decide) (fun cq31 => ?_) (fun cq31 => ?_)
        · skip
          refine G.aload_n (pc := 37) cx dX0_changeSetting_37 rfl 0 rfl ?_
          refine G.getB (pc := 38) cx dX0_changeSetting_38 2 wm_fl_X0_29 (by decide) rfl ?_
          refine G.iload_n (pc := 41) cx dX0_changeSetting_41 rfl 1 rfl ?_
          refine G.ialdV (pc := 42) cx dX0_changeSetting_42 bw_set (j := j) rfl (by omega) (by decide) (setF_at (by omega)) ?_
          refine G.istore_n (pc := 43) cx dX0_changeSetting_43 rfl (by decide) rfl ?_
          refine G.aload_n (pc := 44) cx dX0_changeSetting_44 rfl 1 rfl ?_
          refine G.getB (pc := 45) cx dX0_changeSetting_45 2 wm_fl_X0_29 (by decide) rfl ?_
          refine G.iload_n (pc := 48) cx dX0_changeSetting_48 rfl 2 rfl ?_
          refine G.iload_n (pc := 49) cx dX0_changeSetting_49 rfl 3 rfl ?_
          refine G.iastV (pc := 50) cx dX0_changeSetting_50 bw_set (j := j) rfl (by omega) (by decide) (bwSet (by omega)) ?_
          refine G.iload_n (pc := 51) cx dX0_changeSetting_51 rfl 0 rfl ?_
          refine G.iret (pc := 52) cx rfl dX0_changeSetting_52 ?_ ?_ rfl
          · refine congrArg (fun x => some (Value.int x)) ?_
            (try clear hin9); (try clear cx); (try clear hN); first | (simp [cNoSet, *]; done) | (simp_all [cNoSet]; done)
          · refine congrArg (fun x => bw K b x V) ?_
            (try clear hin9); (try clear cx); (try clear hN); first | (simp [cNoSet, *]; done) | (simp_all [cNoSet]; done)
        · skip
          refine G.ldc (pc := 34) cx dX0_changeSetting_34 (v := (-1000001)) wm_ct_X0_84 ?_
          refine G.iret (pc := 36) cx rfl dX0_changeSetting_36 ?_ ?_ rfl
          · refine congrArg (fun x => some (Value.int x)) ?_
            (try clear hin9); (try clear cx); (try clear hN); first | (simp [cNoSet, *]; done) | (simp_all [cNoSet]; done)
          · refine congrArg (fun x => bw K b x V) ?_
            (try clear hin9); (try clear cx); (try clear hN); first | (simp [cNoSet, *]; done) | (simp_all [cNoSet]; done)
  · skip
    refine G.iload_n (pc := 0) cx dX0_changeSetting_0 rfl 1 rfl ?_
    refine G.if_lt (pc := 1) cx dX0_changeSetting_1 (tgt := 34) (by decide) (fun cq1 => ?_) (fun cq1 => ?_)
    · skip
      refine G.ldc (pc := 34) cx dX0_changeSetting_34 (v := (-1000001)) wm_ct_X0_84 ?_
      refine G.iret (pc := 36) cx rfl dX0_changeSetting_36 ?_ ?_ rfl
      · refine congrArg (fun x => some (Value.int x)) ?_
        (try clear hin9); (try clear cx); (try clear hN); first | (simp [cNoSet, *]; done) | (simp_all [cNoSet]; done)
      · refine congrArg (fun x => bw K b x V) ?_
        (try clear hin9); (try clear cx); (try clear hN); first | (simp [cNoSet, *]; done) | (simp_all [cNoSet]; done)
    · skip
      refine G.iload_n (pc := 4) cx dX0_changeSetting_4 rfl 1 rfl ?_
      refine G.aload_n (pc := 5) cx dX0_changeSetting_5 rfl 0 rfl ?_
      refine G.getB (pc := 6) cx dX0_changeSetting_6 2 wm_fl_X0_29 (by decide) rfl ?_
      refine G.alenV (pc := 9) cx dX0_changeSetting_9 0 rfl bw_set (v := 3) rfl ?_
      refine G.icmp_ge (pc := 10) cx dX0_changeSetting_10 (tgt := 34) (by decide) (fun cq10 => ?_) (fun cq10 => ?_)
      · skip
        have nq10 := Int32.not_lt.mpr cq10
        refine G.ldc (pc := 34) cx dX0_changeSetting_34 (v := (-1000001)) wm_ct_X0_84 ?_
        refine G.iret (pc := 36) cx rfl dX0_changeSetting_36 ?_ ?_ rfl
        · refine congrArg (fun x => some (Value.int x)) ?_
          (try clear hin9); (try clear cx); (try clear hN); first | (simp [cNoSet, *]; done) | (simp_all [cNoSet]; done)
        · refine congrArg (fun x => bw K b x V) ?_
          (try clear hin9); (try clear cx); (try clear hN); first | (simp [cNoSet, *]; done) | (simp_all [cNoSet]; done)
      · skip
        have nq10 := Int32.not_le.mp cq10
        exact absurd (lt_3 cq1 cq10) hQ
