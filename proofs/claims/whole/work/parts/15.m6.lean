set_option maxHeartbeats 4000000 in
set_option maxRecDepth 100000 in
theorem c_X10_readOrder (l : Launch) (K : KT) (sz : Nat) (o : Nat) (z : Zt) (r : Rt) (V : VW) (u : Nat) (L : Nat) (hL : r.2.2.2.2 1 = nI L) (hL6 : L ≤ 60) (hu : u < 60) : Ct l K yX10_readOrder cX10_readOrder 6 (some .int) 2 [.ref o, .int (nI u)] (mw K o z r V) sz (some (.int (rdAns (tAt r.2.2.1 L) u))) (mw K o z (rRead r (tAt r.2.2.1 L) u) V) sz 0 0 := by
  refine Ct.ofG (by decide) (Nat.le_of_ble_eq_true rfl) ?_
  intro p9 e9 s9 m9 a9 b9 t9 c9 cx hin9
  refine G.lv0 (lv2 := [(0, .ref o), (1, .int (nI u))]) rfl ?_
  refine G.aload_n (pc := 0) cx dX10_readOrder_0 rfl 0 rfl ?_
  refine G.aload_n (pc := 1) cx dX10_readOrder_1 rfl 0 rfl ?_
  refine G.iload_n (pc := 2) cx dX10_readOrder_2 rfl 1 rfl ?_
  refine G.callV0 (pc := 3) (rest := [.ref o]) (st1 := [.int (tAt r.2.2.1 L u), .ref o]) cx (c_X10_at l K sz o z r V u L (by exact hL) (by omega) (by omega)) ok_X10_at dX10_readOrder_3 wm_ml_X10_193 rfl mw_m rfl rfl (Nat.le_of_ble_eq_true rfl) ⟨Nat.le_of_ble_eq_true rfl, Nat.le_of_ble_eq_true rfl⟩ rfl ?_
  refine G.putM (pc := 6) cx dX10_readOrder_6 6 2 wm_fl_X10_196 (by decide) rfl ?_
  refine G.aload_n (pc := 9) cx dX10_readOrder_9 rfl 0 rfl ?_
  refine G.getM (pc := 10) cx dX10_readOrder_10 6 wm_fl_X10_196 (by decide) (congrArg (fun x => some (Value.int x)) (upd_s r.2.2.2.2 2 (tAt r.2.2.1 L u))) ?_
  refine G.callS0 (pc := 13) (rest := []) (st1 := [.int (tNum (tAt r.2.2.1 L u))]) cx (c_X10_numbers l K sz (tAt r.2.2.1 L u) (mw K o z (r.1, r.2.1, r.2.2.1, r.2.2.2.1, upd r.2.2.2.2 2 (tAt r.2.2.1 L u)) V)) ok_X10_numbers dX10_readOrder_13 wm_ml_X10_199 rfl rfl (Nat.le_of_ble_eq_true rfl) ⟨Nat.le_of_ble_eq_true rfl, Nat.le_of_ble_eq_true rfl⟩ rfl ?_
  refine G.istore_n (pc := 16) cx dX10_readOrder_16 rfl (by decide) rfl ?_
  refine G.aload_n (pc := 17) cx dX10_readOrder_17 rfl 1 rfl ?_
  refine G.iconst (pc := 18) cx dX10_readOrder_18 (v := 0) (by decide) ?_
  refine G.putM (pc := 19) cx dX10_readOrder_19 8 3 wm_fl_X10_202 (by decide) rfl ?_
  refine G.iload_n (pc := 22) cx dX10_readOrder_22 rfl 0 rfl ?_
  refine G.if_ge (pc := 23) cx dX10_readOrder_23 (tgt := 28) (by decide) (fun cq23 => ?_) (fun cq23 => ?_)
  · skip
    obtain ⟨M, hM3, eM⟩ := tNum_nat cq23
    have eM2 : rdM (tAt r.2.2.1 L) u = M := by unfold rdM; rw [eM]; exact nI_clamp (by omega)
    have hple := plF_le (tAt r.2.2.1 L) M (u + 1)
    have hpge := plF_ge (tAt r.2.2.1 L) M (u + 1)
    rw [eM]
    refine G.iload_n (pc := 28) cx dX10_readOrder_28 rfl 2 rfl ?_
    refine G.iconst (pc := 29) cx dX10_readOrder_29 (v := 1) (by decide) ?_
    refine G.iaddN (pc := 30) cx dX10_readOrder_30 u 1 ?_
    refine G.istore_n (pc := 31) cx dX10_readOrder_31 rfl (by decide) rfl ?_
    refine G.iconst (pc := 32) cx dX10_readOrder_32 (v := 0) (by decide) ?_
    refine G.istore (pc := 33) cx dX10_readOrder_33 (by decide) rfl ?_
    have L35_1 : ∀ (f k35 : Nat), M - k35 < f → k35 ≤ M → (rdA (tAt r.2.2.1 L) M (u + 1) (M - k35) k35 = rdA (tAt r.2.2.1 L) M (u + 1) M 0) → (rdB (tAt r.2.2.1 L) M u (u + 1) (M - k35) k35 = rdB (tAt r.2.2.1 L) M u (u + 1) M 0) → (rdU (tAt r.2.2.1 L) M (u + 1) r.2.2.2.1 (M - k35) k35 = rdU (tAt r.2.2.1 L) M (u + 1) r.2.2.2.1 M 0) → G K p9 l e9 (rmL 2 0 0) s9 m9 a9 b9 t9 c9 (MQ b9 (QCt K (some (.int (rdAns (tAt r.2.2.1 L) u))) (mw K o z (rRead r (tAt r.2.2.1 L) u) V) sz) a9 s9 0 0 (kA K)) 6 (mw K o z (r.1, r.2.1, r.2.2.1, nuF (tAt r.2.2.1 L) M (u + 1) r.2.2.2.1 k35, upd (upd r.2.2.2.2 2 (tAt r.2.2.1 L u)) 3 (nI (brF (tAt r.2.2.1 L) M u (u + 1) k35))) V) sz 0 0 35 [(2, .int (nI M)), (0, .ref o), (1, .int (nI u)), (3, .int (nI (plF (tAt r.2.2.1 L) M (u + 1) k35))), (4, .int (nI k35))] [] := by
      intro f
      induction f with
      | zero => intro k35 h9; omega
      | succ f ih35 =>
        intro k35 h935 h835 hA hB hU
        refine G.iload (pc := 35) cx dX10_readOrder_35 4 rfl ?_
        refine G.iload_n (pc := 37) cx dX10_readOrder_37 rfl 0 rfl ?_
        refine G.icmp_geN (pc := 38) cx k35 M (by omega) (by omega) dX10_readOrder_38 (tgt := 162) (by decide) (fun cq38 => ?_) (fun cq38 => ?_)
        · skip
          have hp1 := hple M
          have hp2 := hpge M
          have ex35 : k35 = M := by omega
          try rw [ex35]
          refine G.aload_n (pc := 162) cx dX10_readOrder_162 rfl 1 rfl ?_
          refine G.iload_n (pc := 163) cx dX10_readOrder_163 rfl 3 rfl ?_
          refine G.iload_n (pc := 164) cx dX10_readOrder_164 rfl 2 rfl ?_
          refine G.isubN (pc := 165) cx dX10_readOrder_165 (plF (tAt r.2.2.1 L) M (u + 1) M) u (by omega) ?_
          refine G.putM (pc := 166) cx dX10_readOrder_166 8 3 wm_fl_X10_202 (by decide) rfl ?_
          refine G.aload_n (pc := 169) cx dX10_readOrder_169 rfl 1 rfl ?_
          refine G.iload_n (pc := 170) cx dX10_readOrder_170 rfl 3 rfl ?_
          refine G.callV0 (pc := 171) (rest := []) (st1 := [.int (tAt r.2.2.1 L (plF (tAt r.2.2.1 L) M (u + 1) M))]) cx (c_X10_at l K sz o z (r.1, r.2.1, r.2.2.1, nuF (tAt r.2.2.1 L) M (u + 1) r.2.2.2.1 M, upd (upd (upd r.2.2.2.2 2 (tAt r.2.2.1 L u)) 3 (nI (brF (tAt r.2.2.1 L) M u (u + 1) M))) 3 (nI ((plF (tAt r.2.2.1 L) M (u + 1) M) - u))) V (plF (tAt r.2.2.1 L) M (u + 1) M) L (by simp [upd, hL]) (by omega) (by omega)) ok_X10_at dX10_readOrder_171 wm_ml_X10_193 rfl mw_m rfl rfl (Nat.le_of_ble_eq_true rfl) ⟨Nat.le_of_ble_eq_true rfl, Nat.le_of_ble_eq_true rfl⟩ rfl ?_
          refine G.bipush (pc := 174) cx dX10_readOrder_174 (v := 59) (by decide) ?_
          refine G.icmp_ne (pc := 176) cx dX10_readOrder_176 (tgt := 185) (by decide) (fun cq176 => ?_) (fun cq176 => ?_)
          · skip
            refine G.iconst (pc := 185) cx dX10_readOrder_185 (v := (-1)) (by decide) ?_
            refine G.iret (pc := 186) cx rfl dX10_readOrder_186 ?_ ?_ rfl
            · refine congrArg (fun x => some (Value.int x)) ?_
              (try clear L35_1); (try clear ih35); (try clear hin9); (try clear cx); refine (if_neg (Int32.not_lt.mpr cq23)).trans ?_; rw [eM2]; first | exact hA.symm.trans (rdA_b (by omega) hbad) | (rw [← hA, ex35, Nat.sub_self]; simp only [rdA]; rw [if_pos cq176]; done) | (rw [← hA, ex35, Nat.sub_self]; simp only [rdA]; rw [if_neg cq176]; done)
            · show _ = _
              (try clear L35_1); (try clear ih35); (try clear hin9); (try clear cx); unfold rRead rdNum rdBrk; rw [if_neg (Int32.not_lt.mpr cq23), if_neg (Int32.not_lt.mpr cq23), eM2]; first | (rw [← hB, ← hU, rdB_b (by omega) hbad, rdU_b (by omega) hbad]; simp only [nuF, upd_upd]; done) | (rw [← hB, ← hU, ex35, Nat.sub_self]; simp only [rdB, rdU, upd_upd]; done)
          · skip
            refine G.iload_n (pc := 179) cx dX10_readOrder_179 rfl 3 rfl ?_
            refine G.iconst (pc := 180) cx dX10_readOrder_180 (v := 1) (by decide) ?_
            refine G.iaddN (pc := 181) cx dX10_readOrder_181 (plF (tAt r.2.2.1 L) M (u + 1) M) 1 ?_
            refine G.goto (pc := 182) cx dX10_readOrder_182 (tgt := 186) (by decide) ?_
            refine G.iret (pc := 186) cx rfl dX10_readOrder_186 ?_ ?_ rfl
            · refine congrArg (fun x => some (Value.int x)) ?_
              (try clear L35_1); (try clear ih35); (try clear hin9); (try clear cx); refine (if_neg (Int32.not_lt.mpr cq23)).trans ?_; rw [eM2]; first | exact hA.symm.trans (rdA_b (by omega) hbad) | (rw [← hA, ex35, Nat.sub_self]; simp only [rdA]; rw [if_pos cq176]; done) | (rw [← hA, ex35, Nat.sub_self]; simp only [rdA]; rw [if_neg cq176]; done)
            · show _ = _
              (try clear L35_1); (try clear ih35); (try clear hin9); (try clear cx); unfold rRead rdNum rdBrk; rw [if_neg (Int32.not_lt.mpr cq23), if_neg (Int32.not_lt.mpr cq23), eM2]; first | (rw [← hB, ← hU, rdB_b (by omega) hbad, rdU_b (by omega) hbad]; simp only [nuF, upd_upd]; done) | (rw [← hB, ← hU, ex35, Nat.sub_self]; simp only [rdB, rdU, upd_upd]; done)
        · skip
          have hp1 := hple k35
          have hp2 := hpge k35
          refine G.aload_n (pc := 41) cx dX10_readOrder_41 rfl 1 rfl ?_
          refine G.getM (pc := 42) cx dX10_readOrder_42 7 wm_fl_X10_22 (by decide) rfl ?_
          refine G.iload (pc := 45) cx dX10_readOrder_45 4 rfl ?_
          refine G.iconst (pc := 47) cx dX10_readOrder_47 (v := 0) (by decide) ?_
          refine G.iastC (pc := 48) cx dX10_readOrder_48 mw_nu (j := k35) rfl (by omega) (by decide) mwNu ?_
          refine G.iconst (pc := 49) cx dX10_readOrder_49 (v := 0) (by decide) ?_
          refine G.istore (pc := 50) cx dX10_readOrder_50 (by decide) rfl ?_
          have L52_2 : ∀ (f k52 : Nat), 3 - k52 < f → k52 ≤ 3 → (nDg (tAt r.2.2.1 L) (plF (tAt r.2.2.1 L) M (u + 1) k35) (3 - k52) k52 = nDg (tAt r.2.2.1 L) (plF (tAt r.2.2.1 L) M (u + 1) k35) 3 0) → G K p9 l e9 (rmL 2 0 0) s9 m9 a9 b9 t9 c9 (MQ b9 (QCt K (some (.int (rdAns (tAt r.2.2.1 L) u))) (mw K o z (rRead r (tAt r.2.2.1 L) u) V) sz) a9 s9 0 0 (kA K)) 6 (mw K o z (r.1, r.2.1, r.2.2.1, upd (nuF (tAt r.2.2.1 L) M (u + 1) r.2.2.2.1 k35) k35 (nVal (tAt r.2.2.1 L) (plF (tAt r.2.2.1 L) M (u + 1) k35) k52), upd (upd r.2.2.2.2 2 (tAt r.2.2.1 L u)) 3 (nI (brF (tAt r.2.2.1 L) M u (u + 1) k35))) V) sz 0 0 52 [(2, .int (nI M)), (0, .ref o), (1, .int (nI u)), (4, .int (nI k35)), (3, .int (nI (plF (tAt r.2.2.1 L) M (u + 1) k35 + k52))), (5, .int (nI k52))] [] := by
            intro f
            induction f with
            | zero => intro k52 h9; omega
            | succ f ih52 =>
              intro k52 h952 h852 hM
              refine G.iload (pc := 52) cx dX10_readOrder_52 5 rfl ?_
              refine G.iconst (pc := 54) cx dX10_readOrder_54 (v := 3) (by decide) ?_
              refine G.icmp_geN (pc := 55) cx k52 3 (by omega) (by omega) dX10_readOrder_55 (tgt := 108) (by decide) (fun cq55 => ?_) (fun cq55 => ?_)
              · skip
                have eD : k52 = nDg (tAt r.2.2.1 L) (plF (tAt r.2.2.1 L) M (u + 1) k35) 3 0 := (nDg_3 _ _ (by omega)).symm.trans hM
                rw [eD]
                have hD3 := nDg_le (tAt r.2.2.1 L) (plF (tAt r.2.2.1 L) M (u + 1) k35) 3 0
                refine G.aload_n (pc := 108) cx dX10_readOrder_108 rfl 1 rfl ?_
                refine G.iload_n (pc := 109) cx dX10_readOrder_109 rfl 4 rfl ?_
                refine G.iload_n (pc := 110) cx dX10_readOrder_110 rfl 2 rfl ?_
                refine G.isubN (pc := 111) cx dX10_readOrder_111 (plF (tAt r.2.2.1 L) M (u + 1) k35 + (nDg (tAt r.2.2.1 L) (plF (tAt r.2.2.1 L) M (u + 1) k35) 3 0)) u (by omega) ?_
                refine G.putM (pc := 112) cx dX10_readOrder_112 8 3 wm_fl_X10_202 (by decide) rfl ?_
                refine G.iload (pc := 115) cx dX10_readOrder_115 5 rfl ?_
                refine G.if_eqN (pc := 117) cx (nDg (tAt r.2.2.1 L) (plF (tAt r.2.2.1 L) M (u + 1) k35) 3 0) (by omega) dX10_readOrder_117 (tgt := 138) (by decide) (fun cq117 => ?_) (fun cq117 => ?_)
                · skip
                  have hbad : rdBad (tAt r.2.2.1 L) M (u + 1) k35 = true := bad_0 cq117
                  refine G.iconst (pc := 138) cx dX10_readOrder_138 (v := (-1)) (by decide) ?_
                  refine G.iret (pc := 139) cx rfl dX10_readOrder_139 ?_ ?_ rfl
                  · refine congrArg (fun x => some (Value.int x)) ?_
                    (try clear L52_2); (try clear ih52); (try clear L35_1); (try clear ih35); (try clear hin9); (try clear cx); refine (if_neg (Int32.not_lt.mpr cq23)).trans ?_; rw [eM2]; first | exact hA.symm.trans (rdA_b (by omega) hbad) | (rw [← hA, ex35, Nat.sub_self]; simp only [rdA]; rw [if_pos cq176]; done) | (rw [← hA, ex35, Nat.sub_self]; simp only [rdA]; rw [if_neg cq176]; done)
                  · show _ = _
                    (try clear L52_2); (try clear ih52); (try clear L35_1); (try clear ih35); (try clear hin9); (try clear cx); unfold rRead rdNum rdBrk; rw [if_neg (Int32.not_lt.mpr cq23), if_neg (Int32.not_lt.mpr cq23), eM2]; first | (rw [← hB, ← hU, rdB_b (by omega) hbad, rdU_b (by omega) hbad]; simp only [nuF, upd_upd]; done) | (rw [← hB, ← hU, ex35, Nat.sub_self]; simp only [rdB, rdU, upd_upd]; done)
                · skip
                  refine G.iload (pc := 120) cx dX10_readOrder_120 3 rfl ?_
                  refine G.iconst (pc := 122) cx dX10_readOrder_122 (v := 1) (by decide) ?_
                  refine G.iaddN (pc := 123) cx dX10_readOrder_123 k35 1 ?_
                  refine G.iload_n (pc := 124) cx dX10_readOrder_124 rfl 0 rfl ?_
                  refine G.icmp_geN (pc := 125) cx (k35 + 1) M (by omega) (by omega) dX10_readOrder_125 (tgt := 140) (by decide) (fun cq125 => ?_) (fun cq125 => ?_)
                  · skip
                    have hgood : ¬ rdBad (tAt r.2.2.1 L) M (u + 1) k35 = true := good_l cq117 cq125
                    refine G.iload_n (pc := 140) cx dX10_readOrder_140 rfl 4 rfl ?_
                    refine G.iload (pc := 141) cx dX10_readOrder_141 3 rfl ?_
                    refine G.iconst (pc := 143) cx dX10_readOrder_143 (v := 1) (by decide) ?_
                    refine G.iaddN (pc := 144) cx dX10_readOrder_144 k35 1 ?_
                    refine G.iload_n (pc := 145) cx dX10_readOrder_145 rfl 0 rfl ?_
                    refine G.icmp_geN (pc := 146) cx (k35 + 1) M (by omega) (by omega) dX10_readOrder_146 (tgt := 153) (by decide) (fun cq146 => ?_) (fun cq146 => ?_)
                    · skip
                      refine G.iconst (pc := 153) cx dX10_readOrder_153 (v := 0) (by decide) ?_
                      refine G.iaddN (pc := 154) cx dX10_readOrder_154 (plF (tAt r.2.2.1 L) M (u + 1) k35 + (nDg (tAt r.2.2.1 L) (plF (tAt r.2.2.1 L) M (u + 1) k35) 3 0)) 0 ?_
                      refine G.istore_n (pc := 155) cx dX10_readOrder_155 rfl (by decide) rfl ?_
                      refine G.iinc (pc := 156) cx dX10_readOrder_156 (v := nI (k35 + 1)) (k := 4) rfl (nI_add k35 1) (by decide) rfl ?_
                      refine G.goto (pc := 159) cx dX10_readOrder_159 (tgt := 35) (by decide) ?_
                      refine G.cast (V' := (mw K o z (r.1, r.2.1, r.2.2.1, nuF (tAt r.2.2.1 L) M (u + 1) r.2.2.2.1 (k35 + 1), upd (upd r.2.2.2.2 2 (tAt r.2.2.1 L u)) 3 (nI (brF (tAt r.2.2.1 L) M u (u + 1) (k35 + 1)))) V)) (by first | rfl | (simp only [plF]; rw [if_pos (show k35 + 1 < M by omega)]; done) | (simp only [plF]; rw [if_neg (show ¬ k35 + 1 < M by omega)]; done) | (exfalso; omega) | (simp only [brF, nuF, upd_upd]; done)) ?_
                      refine G.castL (lv' := [(2, .int (nI M)), (0, .ref o), (1, .int (nI u)), (3, .int (nI ((plF (tAt r.2.2.1 L) M (u + 1) k35 + (nDg (tAt r.2.2.1 L) (plF (tAt r.2.2.1 L) M (u + 1) k35) 3 0)) + 0))), (4, .int (nI (k35 + 1)))]) [2, 3, 4, 1, 0] rfl ?_
                      refine G.lv0 (lv2 := [(2, .int (nI M)), (0, .ref o), (1, .int (nI u)), (3, .int (nI (plF (tAt r.2.2.1 L) M (u + 1) (k35 + 1)))), (4, .int (nI (k35 + 1)))]) (congrArg (fun q9 => ([(2, .int (nI M)), (0, .ref o), (1, .int (nI u)), (3, .int q9), (4, .int (nI (k35 + 1)))] : List (Nat × Value))) (show (nI ((plF (tAt r.2.2.1 L) M (u + 1) k35 + (nDg (tAt r.2.2.1 L) (plF (tAt r.2.2.1 L) M (u + 1) k35) 3 0)) + 0) : Int32) = nI (plF (tAt r.2.2.1 L) M (u + 1) (k35 + 1)) from by first | rfl | (simp only [plF]; rw [if_pos (show k35 + 1 < M by omega)]; done) | (simp only [plF]; rw [if_neg (show ¬ k35 + 1 < M by omega)]; done) | (exfalso; omega) | (simp only [brF, nuF, upd_upd]; done))) ?_
                      exact ih35 (k35 + 1) (by omega) (by omega) (by first | exact (rdA_s cq38 hgood).symm.trans hA | exact (rdB_s cq38 hgood).symm.trans hB | exact (rdU_s cq38 hgood).symm.trans hU) (by first | exact (rdA_s cq38 hgood).symm.trans hA | exact (rdB_s cq38 hgood).symm.trans hB | exact (rdU_s cq38 hgood).symm.trans hU) (by first | exact (rdA_s cq38 hgood).symm.trans hA | exact (rdB_s cq38 hgood).symm.trans hB | exact (rdU_s cq38 hgood).symm.trans hU)
                    · skip
                      refine G.iconst (pc := 149) cx dX10_readOrder_149 (v := 1) (by decide) ?_
                      refine G.goto (pc := 150) cx dX10_readOrder_150 (tgt := 154) (by decide) ?_
                      refine G.iaddN (pc := 154) cx dX10_readOrder_154 (plF (tAt r.2.2.1 L) M (u + 1) k35 + (nDg (tAt r.2.2.1 L) (plF (tAt r.2.2.1 L) M (u + 1) k35) 3 0)) 1 ?_
                      refine G.istore_n (pc := 155) cx dX10_readOrder_155 rfl (by decide) rfl ?_
                      refine G.iinc (pc := 156) cx dX10_readOrder_156 (v := nI (k35 + 1)) (k := 4) rfl (nI_add k35 1) (by decide) rfl ?_
                      refine G.goto (pc := 159) cx dX10_readOrder_159 (tgt := 35) (by decide) ?_
                      refine G.cast (V' := (mw K o z (r.1, r.2.1, r.2.2.1, nuF (tAt r.2.2.1 L) M (u + 1) r.2.2.2.1 (k35 + 1), upd (upd r.2.2.2.2 2 (tAt r.2.2.1 L u)) 3 (nI (brF (tAt r.2.2.1 L) M u (u + 1) (k35 + 1)))) V)) (by first | rfl | (simp only [plF]; rw [if_pos (show k35 + 1 < M by omega)]; done) | (simp only [plF]; rw [if_neg (show ¬ k35 + 1 < M by omega)]; done) | (exfalso; omega) | (simp only [brF, nuF, upd_upd]; done)) ?_
                      refine G.castL (lv' := [(2, .int (nI M)), (0, .ref o), (1, .int (nI u)), (3, .int (nI ((plF (tAt r.2.2.1 L) M (u + 1) k35 + (nDg (tAt r.2.2.1 L) (plF (tAt r.2.2.1 L) M (u + 1) k35) 3 0)) + 1))), (4, .int (nI (k35 + 1)))]) [2, 3, 4, 1, 0] rfl ?_
                      refine G.lv0 (lv2 := [(2, .int (nI M)), (0, .ref o), (1, .int (nI u)), (3, .int (nI (plF (tAt r.2.2.1 L) M (u + 1) (k35 + 1)))), (4, .int (nI (k35 + 1)))]) (congrArg (fun q9 => ([(2, .int (nI M)), (0, .ref o), (1, .int (nI u)), (3, .int q9), (4, .int (nI (k35 + 1)))] : List (Nat × Value))) (show (nI ((plF (tAt r.2.2.1 L) M (u + 1) k35 + (nDg (tAt r.2.2.1 L) (plF (tAt r.2.2.1 L) M (u + 1) k35) 3 0)) + 1) : Int32) = nI (plF (tAt r.2.2.1 L) M (u + 1) (k35 + 1)) from by first | rfl | (simp only [plF]; rw [if_pos (show k35 + 1 < M by omega)]; done) | (simp only [plF]; rw [if_neg (show ¬ k35 + 1 < M by omega)]; done) | (exfalso; omega) | (simp only [brF, nuF, upd_upd]; done))) ?_
                      exact ih35 (k35 + 1) (by omega) (by omega) (by first | exact (rdA_s cq38 hgood).symm.trans hA | exact (rdB_s cq38 hgood).symm.trans hB | exact (rdU_s cq38 hgood).symm.trans hU) (by first | exact (rdA_s cq38 hgood).symm.trans hA | exact (rdB_s cq38 hgood).symm.trans hB | exact (rdU_s cq38 hgood).symm.trans hU) (by first | exact (rdA_s cq38 hgood).symm.trans hA | exact (rdB_s cq38 hgood).symm.trans hB | exact (rdU_s cq38 hgood).symm.trans hU)
                  · skip
                    refine G.aload_n (pc := 128) cx dX10_readOrder_128 rfl 1 rfl ?_
                    refine G.iload_n (pc := 129) cx dX10_readOrder_129 rfl 4 rfl ?_
                    refine G.callV0 (pc := 130) (rest := []) (st1 := [.int (tAt r.2.2.1 L (plF (tAt r.2.2.1 L) M (u + 1) k35 + (nDg (tAt r.2.2.1 L) (plF (tAt r.2.2.1 L) M (u + 1) k35) 3 0)))]) cx (c_X10_at l K sz o z (r.1, r.2.1, r.2.2.1, upd (nuF (tAt r.2.2.1 L) M (u + 1) r.2.2.2.1 k35) k35 (nVal (tAt r.2.2.1 L) (plF (tAt r.2.2.1 L) M (u + 1) k35) (nDg (tAt r.2.2.1 L) (plF (tAt r.2.2.1 L) M (u + 1) k35) 3 0)), upd (upd (upd r.2.2.2.2 2 (tAt r.2.2.1 L u)) 3 (nI (brF (tAt r.2.2.1 L) M u (u + 1) k35))) 3 (nI ((plF (tAt r.2.2.1 L) M (u + 1) k35 + (nDg (tAt r.2.2.1 L) (plF (tAt r.2.2.1 L) M (u + 1) k35) 3 0)) - u))) V (plF (tAt r.2.2.1 L) M (u + 1) k35 + (nDg (tAt r.2.2.1 L) (plF (tAt r.2.2.1 L) M (u + 1) k35) 3 0)) L (by simp [upd, hL]) (by omega) (by omega)) ok_X10_at dX10_readOrder_130 wm_ml_X10_193 rfl mw_m rfl rfl (Nat.le_of_ble_eq_true rfl) ⟨Nat.le_of_ble_eq_true rfl, Nat.le_of_ble_eq_true rfl⟩ rfl ?_
                    refine G.bipush (pc := 133) cx dX10_readOrder_133 (v := 44) (by decide) ?_
                    refine G.icmp_eq (pc := 135) cx dX10_readOrder_135 (tgt := 140) (by decide) (fun cq135 => ?_) (fun cq135 => ?_)
                    · skip
                      have hgood : ¬ rdBad (tAt r.2.2.1 L) M (u + 1) k35 = true := good_c cq117 cq135
                      refine G.iload_n (pc := 140) cx dX10_readOrder_140 rfl 4 rfl ?_
                      refine G.iload (pc := 141) cx dX10_readOrder_141 3 rfl ?_
                      refine G.iconst (pc := 143) cx dX10_readOrder_143 (v := 1) (by decide) ?_
                      refine G.iaddN (pc := 144) cx dX10_readOrder_144 k35 1 ?_
                      refine G.iload_n (pc := 145) cx dX10_readOrder_145 rfl 0 rfl ?_
                      refine G.icmp_geN (pc := 146) cx (k35 + 1) M (by omega) (by omega) dX10_readOrder_146 (tgt := 153) (by decide) (fun cq146 => ?_) (fun cq146 => ?_)
                      · skip
                        refine G.iconst (pc := 153) cx dX10_readOrder_153 (v := 0) (by decide) ?_
                        refine G.iaddN (pc := 154) cx dX10_readOrder_154 (plF (tAt r.2.2.1 L) M (u + 1) k35 + (nDg (tAt r.2.2.1 L) (plF (tAt r.2.2.1 L) M (u + 1) k35) 3 0)) 0 ?_
                        refine G.istore_n (pc := 155) cx dX10_readOrder_155 rfl (by decide) rfl ?_
                        refine G.iinc (pc := 156) cx dX10_readOrder_156 (v := nI (k35 + 1)) (k := 4) rfl (nI_add k35 1) (by decide) rfl ?_
                        refine G.goto (pc := 159) cx dX10_readOrder_159 (tgt := 35) (by decide) ?_
                        refine G.cast (V' := (mw K o z (r.1, r.2.1, r.2.2.1, nuF (tAt r.2.2.1 L) M (u + 1) r.2.2.2.1 (k35 + 1), upd (upd r.2.2.2.2 2 (tAt r.2.2.1 L u)) 3 (nI (brF (tAt r.2.2.1 L) M u (u + 1) (k35 + 1)))) V)) (by first | rfl | (simp only [plF]; rw [if_pos (show k35 + 1 < M by omega)]; done) | (simp only [plF]; rw [if_neg (show ¬ k35 + 1 < M by omega)]; done) | (exfalso; omega) | (simp only [brF, nuF, upd_upd]; done)) ?_
                        refine G.castL (lv' := [(2, .int (nI M)), (0, .ref o), (1, .int (nI u)), (3, .int (nI ((plF (tAt r.2.2.1 L) M (u + 1) k35 + (nDg (tAt r.2.2.1 L) (plF (tAt r.2.2.1 L) M (u + 1) k35) 3 0)) + 0))), (4, .int (nI (k35 + 1)))]) [2, 3, 4, 1, 0] rfl ?_
                        refine G.lv0 (lv2 := [(2, .int (nI M)), (0, .ref o), (1, .int (nI u)), (3, .int (nI (plF (tAt r.2.2.1 L) M (u + 1) (k35 + 1)))), (4, .int (nI (k35 + 1)))]) (congrArg (fun q9 => ([(2, .int (nI M)), (0, .ref o), (1, .int (nI u)), (3, .int q9), (4, .int (nI (k35 + 1)))] : List (Nat × Value))) (show (nI ((plF (tAt r.2.2.1 L) M (u + 1) k35 + (nDg (tAt r.2.2.1 L) (plF (tAt r.2.2.1 L) M (u + 1) k35) 3 0)) + 0) : Int32) = nI (plF (tAt r.2.2.1 L) M (u + 1) (k35 + 1)) from by first | rfl | (simp only [plF]; rw [if_pos (show k35 + 1 < M by omega)]; done) | (simp only [plF]; rw [if_neg (show ¬ k35 + 1 < M by omega)]; done) | (exfalso; omega) | (simp only [brF, nuF, upd_upd]; done))) ?_
                        exact ih35 (k35 + 1) (by omega) (by omega) (by first | exact (rdA_s cq38 hgood).symm.trans hA | exact (rdB_s cq38 hgood).symm.trans hB | exact (rdU_s cq38 hgood).symm.trans hU) (by first | exact (rdA_s cq38 hgood).symm.trans hA | exact (rdB_s cq38 hgood).symm.trans hB | exact (rdU_s cq38 hgood).symm.trans hU) (by first | exact (rdA_s cq38 hgood).symm.trans hA | exact (rdB_s cq38 hgood).symm.trans hB | exact (rdU_s cq38 hgood).symm.trans hU)
                      · skip
                        refine G.iconst (pc := 149) cx dX10_readOrder_149 (v := 1) (by decide) ?_
                        refine G.goto (pc := 150) cx dX10_readOrder_150 (tgt := 154) (by decide) ?_
                        refine G.iaddN (pc := 154) cx dX10_readOrder_154 (plF (tAt r.2.2.1 L) M (u + 1) k35 + (nDg (tAt r.2.2.1 L) (plF (tAt r.2.2.1 L) M (u + 1) k35) 3 0)) 1 ?_
                        refine G.istore_n (pc := 155) cx dX10_readOrder_155 rfl (by decide) rfl ?_
                        refine G.iinc (pc := 156) cx dX10_readOrder_156 (v := nI (k35 + 1)) (k := 4) rfl (nI_add k35 1) (by decide) rfl ?_
                        refine G.goto (pc := 159) cx dX10_readOrder_159 (tgt := 35) (by decide) ?_
                        refine G.cast (V' := (mw K o z (r.1, r.2.1, r.2.2.1, nuF (tAt r.2.2.1 L) M (u + 1) r.2.2.2.1 (k35 + 1), upd (upd r.2.2.2.2 2 (tAt r.2.2.1 L u)) 3 (nI (brF (tAt r.2.2.1 L) M u (u + 1) (k35 + 1)))) V)) (by first | rfl | (simp only [plF]; rw [if_pos (show k35 + 1 < M by omega)]; done) | (simp only [plF]; rw [if_neg (show ¬ k35 + 1 < M by omega)]; done) | (exfalso; omega) | (simp only [brF, nuF, upd_upd]; done)) ?_
                        refine G.castL (lv' := [(2, .int (nI M)), (0, .ref o), (1, .int (nI u)), (3, .int (nI ((plF (tAt r.2.2.1 L) M (u + 1) k35 + (nDg (tAt r.2.2.1 L) (plF (tAt r.2.2.1 L) M (u + 1) k35) 3 0)) + 1))), (4, .int (nI (k35 + 1)))]) [2, 3, 4, 1, 0] rfl ?_
                        refine G.lv0 (lv2 := [(2, .int (nI M)), (0, .ref o), (1, .int (nI u)), (3, .int (nI (plF (tAt r.2.2.1 L) M (u + 1) (k35 + 1)))), (4, .int (nI (k35 + 1)))]) (congrArg (fun q9 => ([(2, .int (nI M)), (0, .ref o), (1, .int (nI u)), (3, .int q9), (4, .int (nI (k35 + 1)))] : List (Nat × Value))) (show (nI ((plF (tAt r.2.2.1 L) M (u + 1) k35 + (nDg (tAt r.2.2.1 L) (plF (tAt r.2.2.1 L) M (u + 1) k35) 3 0)) + 1) : Int32) = nI (plF (tAt r.2.2.1 L) M (u + 1) (k35 + 1)) from by first | rfl | (simp only [plF]; rw [if_pos (show k35 + 1 < M by omega)]; done) | (simp only [plF]; rw [if_neg (show ¬ k35 + 1 < M by omega)]; done) | (exfalso; omega) | (simp only [brF, nuF, upd_upd]; done))) ?_
                        exact ih35 (k35 + 1) (by omega) (by omega) (by first | exact (rdA_s cq38 hgood).symm.trans hA | exact (rdB_s cq38 hgood).symm.trans hB | exact (rdU_s cq38 hgood).symm.trans hU) (by first | exact (rdA_s cq38 hgood).symm.trans hA | exact (rdB_s cq38 hgood).symm.trans hB | exact (rdU_s cq38 hgood).symm.trans hU) (by first | exact (rdA_s cq38 hgood).symm.trans hA | exact (rdB_s cq38 hgood).symm.trans hB | exact (rdU_s cq38 hgood).symm.trans hU)
                    · skip
                      have hbad : rdBad (tAt r.2.2.1 L) M (u + 1) k35 = true := bad_c cq125 cq135
                      refine G.iconst (pc := 138) cx dX10_readOrder_138 (v := (-1)) (by decide) ?_
                      refine G.iret (pc := 139) cx rfl dX10_readOrder_139 ?_ ?_ rfl
                      · refine congrArg (fun x => some (Value.int x)) ?_
                        (try clear L52_2); (try clear ih52); (try clear L35_1); (try clear ih35); (try clear hin9); (try clear cx); refine (if_neg (Int32.not_lt.mpr cq23)).trans ?_; rw [eM2]; first | exact hA.symm.trans (rdA_b (by omega) hbad) | (rw [← hA, ex35, Nat.sub_self]; simp only [rdA]; rw [if_pos cq176]; done) | (rw [← hA, ex35, Nat.sub_self]; simp only [rdA]; rw [if_neg cq176]; done)
                      · show _ = _
                        (try clear L52_2); (try clear ih52); (try clear L35_1); (try clear ih35); (try clear hin9); (try clear cx); unfold rRead rdNum rdBrk; rw [if_neg (Int32.not_lt.mpr cq23), if_neg (Int32.not_lt.mpr cq23), eM2]; first | (rw [← hB, ← hU, rdB_b (by omega) hbad, rdU_b (by omega) hbad]; simp only [nuF, upd_upd]; done) | (rw [← hB, ← hU, ex35, Nat.sub_self]; simp only [rdB, rdU, upd_upd]; done)
              · skip
                refine G.aload_n (pc := 58) cx dX10_readOrder_58 rfl 1 rfl ?_
                refine G.iload_n (pc := 59) cx dX10_readOrder_59 rfl 4 rfl ?_
                refine G.callV0 (pc := 60) (rest := []) (st1 := [.int (tAt r.2.2.1 L (plF (tAt r.2.2.1 L) M (u + 1) k35 + k52))]) cx (c_X10_at l K sz o z (r.1, r.2.1, r.2.2.1, upd (nuF (tAt r.2.2.1 L) M (u + 1) r.2.2.2.1 k35) k35 (nVal (tAt r.2.2.1 L) (plF (tAt r.2.2.1 L) M (u + 1) k35) k52), upd (upd r.2.2.2.2 2 (tAt r.2.2.1 L u)) 3 (nI (brF (tAt r.2.2.1 L) M u (u + 1) k35))) V (plF (tAt r.2.2.1 L) M (u + 1) k35 + k52) L (by simp [upd, hL]) (by omega) (by omega)) ok_X10_at dX10_readOrder_60 wm_ml_X10_193 rfl mw_m rfl rfl (Nat.le_of_ble_eq_true rfl) ⟨Nat.le_of_ble_eq_true rfl, Nat.le_of_ble_eq_true rfl⟩ rfl ?_
                refine G.bipush (pc := 63) cx dX10_readOrder_63 (v := 48) (by decide) ?_
                refine G.bipush (pc := 65) cx dX10_readOrder_65 (v := 57) (by decide) ?_
                refine G.callS0 (pc := 67) (rest := []) (st1 := [.int (b2 (48 ≤ (tAt r.2.2.1 L (plF (tAt r.2.2.1 L) M (u + 1) k35 + k52)) ∧ (tAt r.2.2.1 L (plF (tAt r.2.2.1 L) M (u + 1) k35 + k52)) ≤ 57))]) cx (c_X10_in l K sz (tAt r.2.2.1 L (plF (tAt r.2.2.1 L) M (u + 1) k35 + k52)) 48 57 (mw K o z (r.1, r.2.1, r.2.2.1, upd (nuF (tAt r.2.2.1 L) M (u + 1) r.2.2.2.1 k35) k35 (nVal (tAt r.2.2.1 L) (plF (tAt r.2.2.1 L) M (u + 1) k35) k52), upd (upd r.2.2.2.2 2 (tAt r.2.2.1 L u)) 3 (nI (brF (tAt r.2.2.1 L) M u (u + 1) k35))) V)) ok_X10_in dX10_readOrder_67 wm_ml_X10_25 rfl rfl (Nat.le_of_ble_eq_true rfl) ⟨Nat.le_of_ble_eq_true rfl, Nat.le_of_ble_eq_true rfl⟩ rfl ?_
                refine G.if_eqB (pc := 70) cx dX10_readOrder_70 (tgt := 108) (by decide) (fun cq70 => ?_) (fun cq70 => ?_)
                · skip
                  have eD : k52 = nDg (tAt r.2.2.1 L) (plF (tAt r.2.2.1 L) M (u + 1) k35) 3 0 := (nDg_e _ _ cq55 cq70).symm.trans hM
                  rw [eD]
                  have hD3 := nDg_le (tAt r.2.2.1 L) (plF (tAt r.2.2.1 L) M (u + 1) k35) 3 0
                  refine G.aload_n (pc := 108) cx dX10_readOrder_108 rfl 1 rfl ?_
                  refine G.iload_n (pc := 109) cx dX10_readOrder_109 rfl 4 rfl ?_
                  refine G.iload_n (pc := 110) cx dX10_readOrder_110 rfl 2 rfl ?_
                  refine G.isubN (pc := 111) cx dX10_readOrder_111 (plF (tAt r.2.2.1 L) M (u + 1) k35 + (nDg (tAt r.2.2.1 L) (plF (tAt r.2.2.1 L) M (u + 1) k35) 3 0)) u (by omega) ?_
                  refine G.putM (pc := 112) cx dX10_readOrder_112 8 3 wm_fl_X10_202 (by decide) rfl ?_
                  refine G.iload (pc := 115) cx dX10_readOrder_115 5 rfl ?_
                  refine G.if_eqN (pc := 117) cx (nDg (tAt r.2.2.1 L) (plF (tAt r.2.2.1 L) M (u + 1) k35) 3 0) (by omega) dX10_readOrder_117 (tgt := 138) (by decide) (fun cq117 => ?_) (fun cq117 => ?_)
                  · skip
                    have hbad : rdBad (tAt r.2.2.1 L) M (u + 1) k35 = true := bad_0 cq117
                    refine G.iconst (pc := 138) cx dX10_readOrder_138 (v := (-1)) (by decide) ?_
                    refine G.iret (pc := 139) cx rfl dX10_readOrder_139 ?_ ?_ rfl
                    · refine congrArg (fun x => some (Value.int x)) ?_
                      (try clear L52_2); (try clear ih52); (try clear L35_1); (try clear ih35); (try clear hin9); (try clear cx); refine (if_neg (Int32.not_lt.mpr cq23)).trans ?_; rw [eM2]; first | exact hA.symm.trans (rdA_b (by omega) hbad) | (rw [← hA, ex35, Nat.sub_self]; simp only [rdA]; rw [if_pos cq176]; done) | (rw [← hA, ex35, Nat.sub_self]; simp only [rdA]; rw [if_neg cq176]; done)
                    · show _ = _
                      (try clear L52_2); (try clear ih52); (try clear L35_1); (try clear ih35); (try clear hin9); (try clear cx); unfold rRead rdNum rdBrk; rw [if_neg (Int32.not_lt.mpr cq23), if_neg (Int32.not_lt.mpr cq23), eM2]; first | (rw [← hB, ← hU, rdB_b (by omega) hbad, rdU_b (by omega) hbad]; simp only [nuF, upd_upd]; done) | (rw [← hB, ← hU, ex35, Nat.sub_self]; simp only [rdB, rdU, upd_upd]; done)
                  · skip
                    refine G.iload (pc := 120) cx dX10_readOrder_120 3 rfl ?_
                    refine G.iconst (pc := 122) cx dX10_readOrder_122 (v := 1) (by decide) ?_
                    refine G.iaddN (pc := 123) cx dX10_readOrder_123 k35 1 ?_
                    refine G.iload_n (pc := 124) cx dX10_readOrder_124 rfl 0 rfl ?_
                    refine G.icmp_geN (pc := 125) cx (k35 + 1) M (by omega) (by omega) dX10_readOrder_125 (tgt := 140) (by decide) (fun cq125 => ?_) (fun cq125 => ?_)
                    · skip
                      have hgood : ¬ rdBad (tAt r.2.2.1 L) M (u + 1) k35 = true := good_l cq117 cq125
                      refine G.iload_n (pc := 140) cx dX10_readOrder_140 rfl 4 rfl ?_
                      refine G.iload (pc := 141) cx dX10_readOrder_141 3 rfl ?_
                      refine G.iconst (pc := 143) cx dX10_readOrder_143 (v := 1) (by decide) ?_
                      refine G.iaddN (pc := 144) cx dX10_readOrder_144 k35 1 ?_
                      refine G.iload_n (pc := 145) cx dX10_readOrder_145 rfl 0 rfl ?_
                      refine G.icmp_geN (pc := 146) cx (k35 + 1) M (by omega) (by omega) dX10_readOrder_146 (tgt := 153) (by decide) (fun cq146 => ?_) (fun cq146 => ?_)
                      · skip
                        refine G.iconst (pc := 153) cx dX10_readOrder_153 (v := 0) (by decide) ?_
                        refine G.iaddN (pc := 154) cx dX10_readOrder_154 (plF (tAt r.2.2.1 L) M (u + 1) k35 + (nDg (tAt r.2.2.1 L) (plF (tAt r.2.2.1 L) M (u + 1) k35) 3 0)) 0 ?_
                        refine G.istore_n (pc := 155) cx dX10_readOrder_155 rfl (by decide) rfl ?_
                        refine G.iinc (pc := 156) cx dX10_readOrder_156 (v := nI (k35 + 1)) (k := 4) rfl (nI_add k35 1) (by decide) rfl ?_
                        refine G.goto (pc := 159) cx dX10_readOrder_159 (tgt := 35) (by decide) ?_
                        refine G.cast (V' := (mw K o z (r.1, r.2.1, r.2.2.1, nuF (tAt r.2.2.1 L) M (u + 1) r.2.2.2.1 (k35 + 1), upd (upd r.2.2.2.2 2 (tAt r.2.2.1 L u)) 3 (nI (brF (tAt r.2.2.1 L) M u (u + 1) (k35 + 1)))) V)) (by first | rfl | (simp only [plF]; rw [if_pos (show k35 + 1 < M by omega)]; done) | (simp only [plF]; rw [if_neg (show ¬ k35 + 1 < M by omega)]; done) | (exfalso; omega) | (simp only [brF, nuF, upd_upd]; done)) ?_
                        refine G.castL (lv' := [(2, .int (nI M)), (0, .ref o), (1, .int (nI u)), (3, .int (nI ((plF (tAt r.2.2.1 L) M (u + 1) k35 + (nDg (tAt r.2.2.1 L) (plF (tAt r.2.2.1 L) M (u + 1) k35) 3 0)) + 0))), (4, .int (nI (k35 + 1)))]) [2, 3, 4, 1, 0] rfl ?_
                        refine G.lv0 (lv2 := [(2, .int (nI M)), (0, .ref o), (1, .int (nI u)), (3, .int (nI (plF (tAt r.2.2.1 L) M (u + 1) (k35 + 1)))), (4, .int (nI (k35 + 1)))]) (congrArg (fun q9 => ([(2, .int (nI M)), (0, .ref o), (1, .int (nI u)), (3, .int q9), (4, .int (nI (k35 + 1)))] : List (Nat × Value))) (show (nI ((plF (tAt r.2.2.1 L) M (u + 1) k35 + (nDg (tAt r.2.2.1 L) (plF (tAt r.2.2.1 L) M (u + 1) k35) 3 0)) + 0) : Int32) = nI (plF (tAt r.2.2.1 L) M (u + 1) (k35 + 1)) from by first | rfl | (simp only [plF]; rw [if_pos (show k35 + 1 < M by omega)]; done) | (simp only [plF]; rw [if_neg (show ¬ k35 + 1 < M by omega)]; done) | (exfalso; omega) | (simp only [brF, nuF, upd_upd]; done))) ?_
                        exact ih35 (k35 + 1) (by omega) (by omega) (by first | exact (rdA_s cq38 hgood).symm.trans hA | exact (rdB_s cq38 hgood).symm.trans hB | exact (rdU_s cq38 hgood).symm.trans hU) (by first | exact (rdA_s cq38 hgood).symm.trans hA | exact (rdB_s cq38 hgood).symm.trans hB | exact (rdU_s cq38 hgood).symm.trans hU) (by first | exact (rdA_s cq38 hgood).symm.trans hA | exact (rdB_s cq38 hgood).symm.trans hB | exact (rdU_s cq38 hgood).symm.trans hU)
                      · skip
                        refine G.iconst (pc := 149) cx dX10_readOrder_149 (v := 1) (by decide) ?_
                        refine G.goto (pc := 150) cx dX10_readOrder_150 (tgt := 154) (by decide) ?_
                        refine G.iaddN (pc := 154) cx dX10_readOrder_154 (plF (tAt r.2.2.1 L) M (u + 1) k35 + (nDg (tAt r.2.2.1 L) (plF (tAt r.2.2.1 L) M (u + 1) k35) 3 0)) 1 ?_
                        refine G.istore_n (pc := 155) cx dX10_readOrder_155 rfl (by decide) rfl ?_
                        refine G.iinc (pc := 156) cx dX10_readOrder_156 (v := nI (k35 + 1)) (k := 4) rfl (nI_add k35 1) (by decide) rfl ?_
                        refine G.goto (pc := 159) cx dX10_readOrder_159 (tgt := 35) (by decide) ?_
                        refine G.cast (V' := (mw K o z (r.1, r.2.1, r.2.2.1, nuF (tAt r.2.2.1 L) M (u + 1) r.2.2.2.1 (k35 + 1), upd (upd r.2.2.2.2 2 (tAt r.2.2.1 L u)) 3 (nI (brF (tAt r.2.2.1 L) M u (u + 1) (k35 + 1)))) V)) (by first | rfl | (simp only [plF]; rw [if_pos (show k35 + 1 < M by omega)]; done) | (simp only [plF]; rw [if_neg (show ¬ k35 + 1 < M by omega)]; done) | (exfalso; omega) | (simp only [brF, nuF, upd_upd]; done)) ?_
                        refine G.castL (lv' := [(2, .int (nI M)), (0, .ref o), (1, .int (nI u)), (3, .int (nI ((plF (tAt r.2.2.1 L) M (u + 1) k35 + (nDg (tAt r.2.2.1 L) (plF (tAt r.2.2.1 L) M (u + 1) k35) 3 0)) + 1))), (4, .int (nI (k35 + 1)))]) [2, 3, 4, 1, 0] rfl ?_
                        refine G.lv0 (lv2 := [(2, .int (nI M)), (0, .ref o), (1, .int (nI u)), (3, .int (nI (plF (tAt r.2.2.1 L) M (u + 1) (k35 + 1)))), (4, .int (nI (k35 + 1)))]) (congrArg (fun q9 => ([(2, .int (nI M)), (0, .ref o), (1, .int (nI u)), (3, .int q9), (4, .int (nI (k35 + 1)))] : List (Nat × Value))) (show (nI ((plF (tAt r.2.2.1 L) M (u + 1) k35 + (nDg (tAt r.2.2.1 L) (plF (tAt r.2.2.1 L) M (u + 1) k35) 3 0)) + 1) : Int32) = nI (plF (tAt r.2.2.1 L) M (u + 1) (k35 + 1)) from by first | rfl | (simp only [plF]; rw [if_pos (show k35 + 1 < M by omega)]; done) | (simp only [plF]; rw [if_neg (show ¬ k35 + 1 < M by omega)]; done) | (exfalso; omega) | (simp only [brF, nuF, upd_upd]; done))) ?_
                        exact ih35 (k35 + 1) (by omega) (by omega) (by first | exact (rdA_s cq38 hgood).symm.trans hA | exact (rdB_s cq38 hgood).symm.trans hB | exact (rdU_s cq38 hgood).symm.trans hU) (by first | exact (rdA_s cq38 hgood).symm.trans hA | exact (rdB_s cq38 hgood).symm.trans hB | exact (rdU_s cq38 hgood).symm.trans hU) (by first | exact (rdA_s cq38 hgood).symm.trans hA | exact (rdB_s cq38 hgood).symm.trans hB | exact (rdU_s cq38 hgood).symm.trans hU)
                    · skip
                      refine G.aload_n (pc := 128) cx dX10_readOrder_128 rfl 1 rfl ?_
                      refine G.iload_n (pc := 129) cx dX10_readOrder_129 rfl 4 rfl ?_
                      refine G.callV0 (pc := 130) (rest := []) (st1 := [.int (tAt r.2.2.1 L (plF (tAt r.2.2.1 L) M (u + 1) k35 + (nDg (tAt r.2.2.1 L) (plF (tAt r.2.2.1 L) M (u + 1) k35) 3 0)))]) cx (c_X10_at l K sz o z (r.1, r.2.1, r.2.2.1, upd (nuF (tAt r.2.2.1 L) M (u + 1) r.2.2.2.1 k35) k35 (nVal (tAt r.2.2.1 L) (plF (tAt r.2.2.1 L) M (u + 1) k35) (nDg (tAt r.2.2.1 L) (plF (tAt r.2.2.1 L) M (u + 1) k35) 3 0)), upd (upd (upd r.2.2.2.2 2 (tAt r.2.2.1 L u)) 3 (nI (brF (tAt r.2.2.1 L) M u (u + 1) k35))) 3 (nI ((plF (tAt r.2.2.1 L) M (u + 1) k35 + (nDg (tAt r.2.2.1 L) (plF (tAt r.2.2.1 L) M (u + 1) k35) 3 0)) - u))) V (plF (tAt r.2.2.1 L) M (u + 1) k35 + (nDg (tAt r.2.2.1 L) (plF (tAt r.2.2.1 L) M (u + 1) k35) 3 0)) L (by simp [upd, hL]) (by omega) (by omega)) ok_X10_at dX10_readOrder_130 wm_ml_X10_193 rfl mw_m rfl rfl (Nat.le_of_ble_eq_true rfl) ⟨Nat.le_of_ble_eq_true rfl, Nat.le_of_ble_eq_true rfl⟩ rfl ?_
                      refine G.bipush (pc := 133) cx dX10_readOrder_133 (v := 44) (by decide) ?_
                      refine G.icmp_eq (pc := 135) cx dX10_readOrder_135 (tgt := 140) (by decide) (fun cq135 => ?_) (fun cq135 => ?_)
                      · skip
                        have hgood : ¬ rdBad (tAt r.2.2.1 L) M (u + 1) k35 = true := good_c cq117 cq135
                        refine G.iload_n (pc := 140) cx dX10_readOrder_140 rfl 4 rfl ?_
                        refine G.iload (pc := 141) cx dX10_readOrder_141 3 rfl ?_
                        refine G.iconst (pc := 143) cx dX10_readOrder_143 (v := 1) (by decide) ?_
                        refine G.iaddN (pc := 144) cx dX10_readOrder_144 k35 1 ?_
                        refine G.iload_n (pc := 145) cx dX10_readOrder_145 rfl 0 rfl ?_
                        refine G.icmp_geN (pc := 146) cx (k35 + 1) M (by omega) (by omega) dX10_readOrder_146 (tgt := 153) (by decide) (fun cq146 => ?_) (fun cq146 => ?_)
                        · skip
                          refine G.iconst (pc := 153) cx dX10_readOrder_153 (v := 0) (by decide) ?_
                          refine G.iaddN (pc := 154) cx dX10_readOrder_154 (plF (tAt r.2.2.1 L) M (u + 1) k35 + (nDg (tAt r.2.2.1 L) (plF (tAt r.2.2.1 L) M (u + 1) k35) 3 0)) 0 ?_
                          refine G.istore_n (pc := 155) cx dX10_readOrder_155 rfl (by decide) rfl ?_
                          refine G.iinc (pc := 156) cx dX10_readOrder_156 (v := nI (k35 + 1)) (k := 4) rfl (nI_add k35 1) (by decide) rfl ?_
                          refine G.goto (pc := 159) cx dX10_readOrder_159 (tgt := 35) (by decide) ?_
                          refine G.cast (V' := (mw K o z (r.1, r.2.1, r.2.2.1, nuF (tAt r.2.2.1 L) M (u + 1) r.2.2.2.1 (k35 + 1), upd (upd r.2.2.2.2 2 (tAt r.2.2.1 L u)) 3 (nI (brF (tAt r.2.2.1 L) M u (u + 1) (k35 + 1)))) V)) (by first | rfl | (simp only [plF]; rw [if_pos (show k35 + 1 < M by omega)]; done) | (simp only [plF]; rw [if_neg (show ¬ k35 + 1 < M by omega)]; done) | (exfalso; omega) | (simp only [brF, nuF, upd_upd]; done)) ?_
                          refine G.castL (lv' := [(2, .int (nI M)), (0, .ref o), (1, .int (nI u)), (3, .int (nI ((plF (tAt r.2.2.1 L) M (u + 1) k35 + (nDg (tAt r.2.2.1 L) (plF (tAt r.2.2.1 L) M (u + 1) k35) 3 0)) + 0))), (4, .int (nI (k35 + 1)))]) [2, 3, 4, 1, 0] rfl ?_
                          refine G.lv0 (lv2 := [(2, .int (nI M)), (0, .ref o), (1, .int (nI u)), (3, .int (nI (plF (tAt r.2.2.1 L) M (u + 1) (k35 + 1)))), (4, .int (nI (k35 + 1)))]) (congrArg (fun q9 => ([(2, .int (nI M)), (0, .ref o), (1, .int (nI u)), (3, .int q9), (4, .int (nI (k35 + 1)))] : List (Nat × Value))) (show (nI ((plF (tAt r.2.2.1 L) M (u + 1) k35 + (nDg (tAt r.2.2.1 L) (plF (tAt r.2.2.1 L) M (u + 1) k35) 3 0)) + 0) : Int32) = nI (plF (tAt r.2.2.1 L) M (u + 1) (k35 + 1)) from by first | rfl | (simp only [plF]; rw [if_pos (show k35 + 1 < M by omega)]; done) | (simp only [plF]; rw [if_neg (show ¬ k35 + 1 < M by omega)]; done) | (exfalso; omega) | (simp only [brF, nuF, upd_upd]; done))) ?_
                          exact ih35 (k35 + 1) (by omega) (by omega) (by first | exact (rdA_s cq38 hgood).symm.trans hA | exact (rdB_s cq38 hgood).symm.trans hB | exact (rdU_s cq38 hgood).symm.trans hU) (by first | exact (rdA_s cq38 hgood).symm.trans hA | exact (rdB_s cq38 hgood).symm.trans hB | exact (rdU_s cq38 hgood).symm.trans hU) (by first | exact (rdA_s cq38 hgood).symm.trans hA | exact (rdB_s cq38 hgood).symm.trans hB | exact (rdU_s cq38 hgood).symm.trans hU)
                        · skip
                          refine G.iconst (pc := 149) cx dX10_readOrder_149 (v := 1) (by decide) ?_
                          refine G.goto (pc := 150) cx dX10_readOrder_150 (tgt := 154) (by decide) ?_
                          refine G.iaddN (pc := 154) cx dX10_readOrder_154 (plF (tAt r.2.2.1 L) M (u + 1) k35 + (nDg (tAt r.2.2.1 L) (plF (tAt r.2.2.1 L) M (u + 1) k35) 3 0)) 1 ?_
                          refine G.istore_n (pc := 155) cx dX10_readOrder_155 rfl (by decide) rfl ?_
                          refine G.iinc (pc := 156) cx dX10_readOrder_156 (v := nI (k35 + 1)) (k := 4) rfl (nI_add k35 1) (by decide) rfl ?_
                          refine G.goto (pc := 159) cx dX10_readOrder_159 (tgt := 35) (by decide) ?_
                          refine G.cast (V' := (mw K o z (r.1, r.2.1, r.2.2.1, nuF (tAt r.2.2.1 L) M (u + 1) r.2.2.2.1 (k35 + 1), upd (upd r.2.2.2.2 2 (tAt r.2.2.1 L u)) 3 (nI (brF (tAt r.2.2.1 L) M u (u + 1) (k35 + 1)))) V)) (by first | rfl | (simp only [plF]; rw [if_pos (show k35 + 1 < M by omega)]; done) | (simp only [plF]; rw [if_neg (show ¬ k35 + 1 < M by omega)]; done) | (exfalso; omega) | (simp only [brF, nuF, upd_upd]; done)) ?_
                          refine G.castL (lv' := [(2, .int (nI M)), (0, .ref o), (1, .int (nI u)), (3, .int (nI ((plF (tAt r.2.2.1 L) M (u + 1) k35 + (nDg (tAt r.2.2.1 L) (plF (tAt r.2.2.1 L) M (u + 1) k35) 3 0)) + 1))), (4, .int (nI (k35 + 1)))]) [2, 3, 4, 1, 0] rfl ?_
                          refine G.lv0 (lv2 := [(2, .int (nI M)), (0, .ref o), (1, .int (nI u)), (3, .int (nI (plF (tAt r.2.2.1 L) M (u + 1) (k35 + 1)))), (4, .int (nI (k35 + 1)))]) (congrArg (fun q9 => ([(2, .int (nI M)), (0, .ref o), (1, .int (nI u)), (3, .int q9), (4, .int (nI (k35 + 1)))] : List (Nat × Value))) (show (nI ((plF (tAt r.2.2.1 L) M (u + 1) k35 + (nDg (tAt r.2.2.1 L) (plF (tAt r.2.2.1 L) M (u + 1) k35) 3 0)) + 1) : Int32) = nI (plF (tAt r.2.2.1 L) M (u + 1) (k35 + 1)) from by first | rfl | (simp only [plF]; rw [if_pos (show k35 + 1 < M by omega)]; done) | (simp only [plF]; rw [if_neg (show ¬ k35 + 1 < M by omega)]; done) | (exfalso; omega) | (simp only [brF, nuF, upd_upd]; done))) ?_
                          exact ih35 (k35 + 1) (by omega) (by omega) (by first | exact (rdA_s cq38 hgood).symm.trans hA | exact (rdB_s cq38 hgood).symm.trans hB | exact (rdU_s cq38 hgood).symm.trans hU) (by first | exact (rdA_s cq38 hgood).symm.trans hA | exact (rdB_s cq38 hgood).symm.trans hB | exact (rdU_s cq38 hgood).symm.trans hU) (by first | exact (rdA_s cq38 hgood).symm.trans hA | exact (rdB_s cq38 hgood).symm.trans hB | exact (rdU_s cq38 hgood).symm.trans hU)
                      · skip
                        have hbad : rdBad (tAt r.2.2.1 L) M (u + 1) k35 = true := bad_c cq125 cq135
                        refine G.iconst (pc := 138) cx dX10_readOrder_138 (v := (-1)) (by decide) ?_
                        refine G.iret (pc := 139) cx rfl dX10_readOrder_139 ?_ ?_ rfl
                        · refine congrArg (fun x => some (Value.int x)) ?_
                          (try clear L52_2); (try clear ih52); (try clear L35_1); (try clear ih35); (try clear hin9); (try clear cx); refine (if_neg (Int32.not_lt.mpr cq23)).trans ?_; rw [eM2]; first | exact hA.symm.trans (rdA_b (by omega) hbad) | (rw [← hA, ex35, Nat.sub_self]; simp only [rdA]; rw [if_pos cq176]; done) | (rw [← hA, ex35, Nat.sub_self]; simp only [rdA]; rw [if_neg cq176]; done)
                        · show _ = _
                          (try clear L52_2); (try clear ih52); (try clear L35_1); (try clear ih35); (try clear hin9); (try clear cx); unfold rRead rdNum rdBrk; rw [if_neg (Int32.not_lt.mpr cq23), if_neg (Int32.not_lt.mpr cq23), eM2]; first | (rw [← hB, ← hU, rdB_b (by omega) hbad, rdU_b (by omega) hbad]; simp only [nuF, upd_upd]; done) | (rw [← hB, ← hU, ex35, Nat.sub_self]; simp only [rdB, rdU, upd_upd]; done)
                · skip
                  refine G.aload_n (pc := 73) cx dX10_readOrder_73 rfl 1 rfl ?_
                  refine G.getM (pc := 74) cx dX10_readOrder_74 7 wm_fl_X10_22 (by decide) rfl ?_
                  refine G.iload (pc := 77) cx dX10_readOrder_77 3 rfl ?_
                  refine G.bipush (pc := 79) cx dX10_readOrder_79 (v := 10) (by decide) ?_
                  refine G.aload_n (pc := 81) cx dX10_readOrder_81 rfl 1 rfl ?_
                  refine G.getM (pc := 82) cx dX10_readOrder_82 7 wm_fl_X10_22 (by decide) rfl ?_
                  refine G.iload (pc := 85) cx dX10_readOrder_85 3 rfl ?_
                  refine G.ialdV (pc := 87) cx dX10_readOrder_87 mw_nu (j := k35) rfl (by omega) (by decide) (cut_at (by omega)) ?_
                  refine G.imul (pc := 88) cx dX10_readOrder_88 ?_
                  refine G.aload_n (pc := 89) cx dX10_readOrder_89 rfl 1 rfl ?_
                  refine G.iload_n (pc := 90) cx dX10_readOrder_90 rfl 4 rfl ?_
                  refine G.callV0 (pc := 91) (rest := [.int (10 * ((upd (nuF (tAt r.2.2.1 L) M (u + 1) r.2.2.2.1 k35) k35 (nVal (tAt r.2.2.1 L) (plF (tAt r.2.2.1 L) M (u + 1) k35) k52)) k35)), .int (nI k35), .ref (o + 5)]) (st1 := [.int (tAt r.2.2.1 L (plF (tAt r.2.2.1 L) M (u + 1) k35 + k52)), .int (10 * ((upd (nuF (tAt r.2.2.1 L) M (u + 1) r.2.2.2.1 k35) k35 (nVal (tAt r.2.2.1 L) (plF (tAt r.2.2.1 L) M (u + 1) k35) k52)) k35)), .int (nI k35), .ref (o + 5)]) cx (c_X10_at l K sz o z (r.1, r.2.1, r.2.2.1, upd (nuF (tAt r.2.2.1 L) M (u + 1) r.2.2.2.1 k35) k35 (nVal (tAt r.2.2.1 L) (plF (tAt r.2.2.1 L) M (u + 1) k35) k52), upd (upd r.2.2.2.2 2 (tAt r.2.2.1 L u)) 3 (nI (brF (tAt r.2.2.1 L) M u (u + 1) k35))) V (plF (tAt r.2.2.1 L) M (u + 1) k35 + k52) L (by simp [upd, hL]) (by omega) (by omega)) ok_X10_at dX10_readOrder_91 wm_ml_X10_193 rfl mw_m rfl rfl (Nat.le_of_ble_eq_true rfl) ⟨Nat.le_of_ble_eq_true rfl, Nat.le_of_ble_eq_true rfl⟩ rfl ?_
                  refine G.iadd (pc := 94) cx dX10_readOrder_94 ?_
                  refine G.bipush (pc := 95) cx dX10_readOrder_95 (v := 48) (by decide) ?_
                  refine G.isub (pc := 97) cx dX10_readOrder_97 ?_
                  refine G.iastC (pc := 98) cx dX10_readOrder_98 mw_nu (j := k35) rfl (by omega) (by decide) mwNu ?_
                  refine G.iinc (pc := 99) cx dX10_readOrder_99 (v := nI (k52 + 1)) (k := 5) rfl (nI_add k52 1) (by decide) rfl ?_
                  refine G.iinc (pc := 102) cx dX10_readOrder_102 (v := nI (plF (tAt r.2.2.1 L) M (u + 1) k35 + k52 + 1)) (k := 5) rfl (nI_add (plF (tAt r.2.2.1 L) M (u + 1) k35 + k52) 1) (by decide) rfl ?_
                  refine G.goto (pc := 105) cx dX10_readOrder_105 (tgt := 52) (by decide) ?_
                  refine G.cast (V' := (mw K o z (r.1, r.2.1, r.2.2.1, upd (nuF (tAt r.2.2.1 L) M (u + 1) r.2.2.2.1 k35) k35 (nVal (tAt r.2.2.1 L) (plF (tAt r.2.2.1 L) M (u + 1) k35) (k52 + 1)), upd (upd r.2.2.2.2 2 (tAt r.2.2.1 L u)) 3 (nI (brF (tAt r.2.2.1 L) M u (u + 1) k35))) V)) (congrArg (fun q9 => mw K o z (r.1, r.2.1, r.2.2.1, q9, upd (upd r.2.2.2.2 2 (tAt r.2.2.1 L u)) 3 (nI (brF (tAt r.2.2.1 L) M u (u + 1) k35))) V) (by first | rfl | (simp only [nVal, upd_upd, upd_s]; done))) ?_
                  refine G.castL (lv' := [(2, .int (nI M)), (0, .ref o), (1, .int (nI u)), (4, .int (nI k35)), (3, .int (nI (plF (tAt r.2.2.1 L) M (u + 1) k35 + k52 + 1))), (5, .int (nI (k52 + 1)))]) [2, 3, 4, 5, 0, 1] rfl ?_
                  refine G.lv0 (lv2 := [(2, .int (nI M)), (0, .ref o), (1, .int (nI u)), (4, .int (nI k35)), (3, .int (nI (plF (tAt r.2.2.1 L) M (u + 1) k35 + (k52 + 1)))), (5, .int (nI (k52 + 1)))]) (congrArg (fun q9 => ([(2, .int (nI M)), (0, .ref o), (1, .int (nI u)), (4, .int (nI k35)), (3, .int q9), (5, .int (nI (k52 + 1)))] : List (Nat × Value))) (show (nI (plF (tAt r.2.2.1 L) M (u + 1) k35 + k52 + 1) : Int32) = nI (plF (tAt r.2.2.1 L) M (u + 1) k35 + (k52 + 1)) from by first | rfl | (simp only [nVal, upd_upd, upd_s]; done))) ?_
                  exact ih52 (k52 + 1) (by omega) (by omega) (by exact (nDg_s _ _ cq55 cq70).symm.trans hM)
          refine G.cast (V' := (mw K o z (r.1, r.2.1, r.2.2.1, upd (nuF (tAt r.2.2.1 L) M (u + 1) r.2.2.2.1 k35) k35 (nVal (tAt r.2.2.1 L) (plF (tAt r.2.2.1 L) M (u + 1) k35) 0), upd (upd r.2.2.2.2 2 (tAt r.2.2.1 L u)) 3 (nI (brF (tAt r.2.2.1 L) M u (u + 1) k35))) V)) (congrArg (fun q9 => mw K o z (r.1, r.2.1, r.2.2.1, q9, upd (upd r.2.2.2.2 2 (tAt r.2.2.1 L u)) 3 (nI (brF (tAt r.2.2.1 L) M u (u + 1) k35))) V) (by first | rfl | simp only [nVal])) ?_
          refine G.castL (lv' := [(2, .int (nI M)), (0, .ref o), (1, .int (nI u)), (4, .int (nI k35)), (3, .int (nI (plF (tAt r.2.2.1 L) M (u + 1) k35))), (5, .int 0)]) [1, 2, 3, 5, 4, 0] rfl ?_
          refine G.lv0 (lv2 := [(2, .int (nI M)), (0, .ref o), (1, .int (nI u)), (4, .int (nI k35)), (3, .int (nI (plF (tAt r.2.2.1 L) M (u + 1) k35 + 0))), (5, .int 0)]) (congrArg (fun q9 => ([(2, .int (nI M)), (0, .ref o), (1, .int (nI u)), (4, .int (nI k35)), (3, .int q9), (5, .int 0)] : List (Nat × Value))) (show (nI (plF (tAt r.2.2.1 L) M (u + 1) k35) : Int32) = nI (plF (tAt r.2.2.1 L) M (u + 1) k35 + 0) from by first | rfl | simp only [nVal])) ?_
          refine G.lv0 (lv2 := [(2, .int (nI M)), (0, .ref o), (1, .int (nI u)), (4, .int (nI k35)), (3, .int (nI (plF (tAt r.2.2.1 L) M (u + 1) k35 + 0))), (5, .int (nI 0))]) (congrArg (fun q9 => ([(2, .int (nI M)), (0, .ref o), (1, .int (nI u)), (4, .int (nI k35)), (3, .int (nI (plF (tAt r.2.2.1 L) M (u + 1) k35 + 0))), (5, .int q9)] : List (Nat × Value))) (show (0 : Int32) = nI 0 from by first | rfl | simp only [nVal])) ?_
          exact L52_2 (3 + 1) 0 (by omega) (by omega) (by rfl)
    refine G.cast (V' := (mw K o z (r.1, r.2.1, r.2.2.1, nuF (tAt r.2.2.1 L) M (u + 1) r.2.2.2.1 0, upd (upd r.2.2.2.2 2 (tAt r.2.2.1 L u)) 3 (nI (brF (tAt r.2.2.1 L) M u (u + 1) 0))) V)) (by first | rfl | (simp only [nuF, brF]; rfl)) ?_
    refine G.castL (lv' := [(2, .int (nI M)), (0, .ref o), (1, .int (nI u)), (3, .int (nI (u + 1))), (4, .int 0)]) [2, 3, 4, 1, 0] rfl ?_
    refine G.lv0 (lv2 := [(2, .int (nI M)), (0, .ref o), (1, .int (nI u)), (3, .int (nI (plF (tAt r.2.2.1 L) M (u + 1) 0))), (4, .int 0)]) (congrArg (fun q9 => ([(2, .int (nI M)), (0, .ref o), (1, .int (nI u)), (3, .int q9), (4, .int 0)] : List (Nat × Value))) (show (nI (u + 1) : Int32) = nI (plF (tAt r.2.2.1 L) M (u + 1) 0) from by first | rfl | (simp only [nuF, brF]; rfl))) ?_
    refine G.lv0 (lv2 := [(2, .int (nI M)), (0, .ref o), (1, .int (nI u)), (3, .int (nI (plF (tAt r.2.2.1 L) M (u + 1) 0))), (4, .int (nI 0))]) (congrArg (fun q9 => ([(2, .int (nI M)), (0, .ref o), (1, .int (nI u)), (3, .int (nI (plF (tAt r.2.2.1 L) M (u + 1) 0))), (4, .int q9)] : List (Nat × Value))) (show (0 : Int32) = nI 0 from by first | rfl | (simp only [nuF, brF]; rfl))) ?_
    exact L35_1 (M + 1) 0 (by omega) (by omega) (by rfl) (by rfl) (by rfl)
  · skip
    refine G.iconst (pc := 26) cx dX10_readOrder_26 (v := (-1)) (by decide) ?_
    refine G.iret (pc := 27) cx rfl dX10_readOrder_27 ?_ ?_ rfl
    · refine congrArg (fun x => some (Value.int x)) ?_
      (try clear L52_2); (try clear ih52); (try clear L35_1); (try clear ih35); (try clear hin9); (try clear cx); exact if_pos (Int32.not_le.mp cq23)
    · show _ = _
      (try clear L52_2); (try clear ih52); (try clear L35_1); (try clear ih35); (try clear hin9); (try clear cx); unfold rRead rdNum rdBrk; rw [if_pos (Int32.not_le.mp cq23), if_pos (Int32.not_le.mp cq23)]; rfl
