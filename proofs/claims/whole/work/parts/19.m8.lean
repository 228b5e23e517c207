set_option maxHeartbeats 4000000 in
set_option maxRecDepth 100000 in
theorem c_X10_doText (l : Launch) (K : KT) (sz : Nat) (o : Nat) (z : Zt) (r : Rt) (V : VW) (L : Nat) (N : Nat) (hL : r.2.2.2.2 1 = nI L) (hL6 : L ≤ 60) (hN : z 194 = nI N) (h16 : N ≤ 16) : Ct l K yX10_doText cX10_doText 3 (some .boolean) 6 [.ref o] (mw K o z r V) sz (some (.int (b2 (L ≤ tU (tAt r.2.2.1 L) (txK (tAt r.2.2.1 L) L r.2.2.2.1 z L 0))))) (mw K o (tZ (tAt r.2.2.1 L) r.2.2.2.1 z (txK (tAt r.2.2.1 L) L r.2.2.2.1 z L 0)) (txR r (tAt r.2.2.1 L) L z) V) sz 0 0 := by
  refine Ct.ofG (by decide) (Nat.le_of_ble_eq_true rfl) ?_
  intro p9 e9 s9 m9 a9 b9 t9 c9 cx hin9
  refine G.lv0 (lv2 := [(0, .ref o)]) rfl ?_
  refine G.aload_n (pc := 0) cx dX10_doText_0 rfl 0 rfl ?_
  refine G.iconst (pc := 1) cx dX10_doText_1 (v := 0) (by decide) ?_
  refine G.putM (pc := 2) cx dX10_doText_2 12 7 wm_fl_X10_205 (by decide) rfl ?_
  refine G.iconst (pc := 5) cx dX10_doText_5 (v := 0) (by decide) ?_
  refine G.istore_n (pc := 6) cx dX10_doText_6 rfl (by decide) rfl ?_
  have L7_1 : ∀ (f k7 : Nat), L - k7 < f → k7 ≤ L → (txK (tAt r.2.2.1 L) L r.2.2.2.1 z (L - k7) k7 = txK (tAt r.2.2.1 L) L r.2.2.2.1 z L 0) → (k7 ≤ tU (tAt r.2.2.1 L) k7) → (tU (tAt r.2.2.1 L) k7 ≤ 74) → (∃ N1, N1 ≤ 16 ∧ tZ (tAt r.2.2.1 L) r.2.2.2.1 z k7 194 = nI N1) → G K p9 l e9 (rmL 6 0 0) s9 m9 a9 b9 t9 c9 (MQ b9 (QCt K (some (.int (b2 (L ≤ tU (tAt r.2.2.1 L) (txK (tAt r.2.2.1 L) L r.2.2.2.1 z L 0))))) (mw K o (tZ (tAt r.2.2.1 L) r.2.2.2.1 z (txK (tAt r.2.2.1 L) L r.2.2.2.1 z L 0)) (txR r (tAt r.2.2.1 L) L z) V) sz) a9 s9 0 0 (kA K)) 3 (mw K o (tZ (tAt r.2.2.1 L) r.2.2.2.1 z k7) (r.1, r.2.1, r.2.2.1, tNu (tAt r.2.2.1 L) r.2.2.2.1 k7, tG (tAt r.2.2.1 L) r.2.2.2.1 z r.2.2.2.2 k7) V) sz 0 0 7 [(0, .ref o), (1, .int (nI (tU (tAt r.2.2.1 L) k7)))] [] := by
    intro f
    induction f with
    | zero => intro k7 h9; omega
    | succ f ih7 =>
      intro k7 h97 h87 hK hku hub hZ
      refine G.iload_n (pc := 7) cx dX10_doText_7 rfl 1 rfl ?_
      refine G.aload_n (pc := 8) cx dX10_doText_8 rfl 0 rfl ?_
      refine G.getM (pc := 9) cx dX10_doText_9 5 wm_fl_X10_190 (by decide) (congrArg (fun x => some (Value.int x)) (((tG_k _ _ _ _ (by omega) _).trans hL))) ?_
      refine G.icmp_geN (pc := 12) cx (tU (tAt r.2.2.1 L) k7) L (by omega) (by omega) dX10_doText_12 (tgt := 91) (by decide) (fun cq12 => ?_) (fun cq12 => ?_)
      · skip
        have hKk := hK.symm.trans (txK_e cq12)
        refine G.iconst (pc := 91) cx dX10_doText_91 (v := 1) (by decide) ?_
        refine G.zret (pc := 92) cx rfl dX10_doText_92 rfl ?_ ?_ rfl
        · refine congrArg (fun x => some (Value.int x)) ?_
          (try clear L7_1); (try clear ih7); (try clear hin9); (try clear cx); refine b2_t ?_; rw [hKk]; exact cq12
        · show _ = _
          (try clear L7_1); (try clear ih7); (try clear hin9); (try clear cx); simp only [txR, txN, txG]; rw [hKk, if_pos cq12, if_pos cq12]
      · skip
        obtain ⟨N1, hN1, hNz⟩ := hZ
        refine G.aload_n (pc := 15) cx dX10_doText_15 rfl 0 rfl ?_
        refine G.iload_n (pc := 16) cx dX10_doText_16 rfl 1 rfl ?_
        refine G.callV0 (pc := 17) (rest := []) (st1 := [.int (rdAns (tAt r.2.2.1 L) (tU (tAt r.2.2.1 L) k7))]) cx (c_X10_readOrder l K sz o (tZ (tAt r.2.2.1 L) r.2.2.2.1 z k7) (r.1, r.2.1, r.2.2.1, tNu (tAt r.2.2.1 L) r.2.2.2.1 k7, tG (tAt r.2.2.1 L) r.2.2.2.1 z r.2.2.2.2 k7) V (tU (tAt r.2.2.1 L) k7) L (by exact (tG_k _ _ _ _ (by omega) _).trans hL) (by omega) (by omega)) ok_X10_readOrder dX10_doText_17 wm_ml_X10_208 rfl mw_m rfl rfl (Nat.le_of_ble_eq_true rfl) ⟨Nat.le_of_ble_eq_true rfl, Nat.le_of_ble_eq_true rfl⟩ rfl ?_
        refine G.cast (V' := (mw K o (tZ (tAt r.2.2.1 L) r.2.2.2.1 z k7) (r.1, r.2.1, r.2.2.1, rdNum (tAt r.2.2.1 L) (tU (tAt r.2.2.1 L) k7) (tNu (tAt r.2.2.1 L) r.2.2.2.1 k7), upd (upd (tG (tAt r.2.2.1 L) r.2.2.2.1 z r.2.2.2.2 k7) 2 ((tAt r.2.2.1 L) (tU (tAt r.2.2.1 L) k7))) 3 (nI (rdBrk (tAt r.2.2.1 L) (tU (tAt r.2.2.1 L) k7)))) V)) rfl ?_
        refine G.istore_n (pc := 20) cx dX10_doText_20 rfl (by decide) rfl ?_
        refine G.aload_n (pc := 21) cx dX10_doText_21 rfl 1 rfl ?_
        refine G.iload_n (pc := 22) cx dX10_doText_22 rfl 0 rfl ?_
        have J37_2 : G K p9 l e9 (rmL 6 0 0) s9 m9 a9 b9 t9 c9 (MQ b9 (QCt K (some (.int (b2 (L ≤ tU (tAt r.2.2.1 L) (txK (tAt r.2.2.1 L) L r.2.2.2.1 z L 0))))) (mw K o (tZ (tAt r.2.2.1 L) r.2.2.2.1 z (txK (tAt r.2.2.1 L) L r.2.2.2.1 z L 0)) (txR r (tAt r.2.2.1 L) L z) V) sz) a9 s9 0 0 (kA K)) 3 (mw K o (tZ (tAt r.2.2.1 L) r.2.2.2.1 z k7) (r.1, r.2.1, r.2.2.1, rdNum (tAt r.2.2.1 L) (tU (tAt r.2.2.1 L) k7) (tNu (tAt r.2.2.1 L) r.2.2.2.1 k7), upd (upd (tG (tAt r.2.2.1 L) r.2.2.2.1 z r.2.2.2.2 k7) 2 ((tAt r.2.2.1 L) (tU (tAt r.2.2.1 L) k7))) 3 (nI (rdBrk (tAt r.2.2.1 L) (tU (tAt r.2.2.1 L) k7)))) V) sz 0 0 37 [(0, .ref o), (1, .int (nI (tU (tAt r.2.2.1 L) k7))), (2, .int (rdAns (tAt r.2.2.1 L) (tU (tAt r.2.2.1 L) k7)))] [.int (tCau (tAt r.2.2.1 L) r.2.2.2.1 z k7), .ref o] := by
          refine G.putM (pc := 37) cx dX10_doText_37 11 6 wm_fl_X10_214 (by decide) rfl ?_
          refine G.iload_n (pc := 40) cx dX10_doText_40 rfl 2 rfl ?_
          refine G.if_lt (pc := 41) cx dX10_doText_41 (tgt := 51) (by decide) (fun cq41 => ?_) (fun cq41 => ?_)
          · skip
            have hb9 : rdAns (tAt r.2.2.1 L) (tU (tAt r.2.2.1 L) k7) < 0 ∨ tCau (tAt r.2.2.1 L) r.2.2.2.1 z k7 < 0 := Or.inl cq41
            have hKk := hK.symm.trans (txK_b (by omega) hb9)
            refine G.aload_n (pc := 51) cx dX10_doText_51 rfl 0 rfl ?_
            refine G.iload_n (pc := 52) cx dX10_doText_52 rfl 1 rfl ?_
            refine G.putM (pc := 53) cx dX10_doText_53 9 4 wm_fl_X10_217 (by decide) rfl ?_
            refine G.aload_n (pc := 56) cx dX10_doText_56 rfl 0 rfl ?_
            refine G.iload_n (pc := 57) cx dX10_doText_57 rfl 2 rfl ?_
            have J66_3 : G K p9 l e9 (rmL 6 0 0) s9 m9 a9 b9 t9 c9 (MQ b9 (QCt K (some (.int (b2 (L ≤ tU (tAt r.2.2.1 L) (txK (tAt r.2.2.1 L) L r.2.2.2.1 z L 0))))) (mw K o (tZ (tAt r.2.2.1 L) r.2.2.2.1 z (txK (tAt r.2.2.1 L) L r.2.2.2.1 z L 0)) (txR r (tAt r.2.2.1 L) L z) V) sz) a9 s9 0 0 (kA K)) 3 (mw K o (tZ (tAt r.2.2.1 L) r.2.2.2.1 z k7) (r.1, r.2.1, r.2.2.1, rdNum (tAt r.2.2.1 L) (tU (tAt r.2.2.1 L) k7) (tNu (tAt r.2.2.1 L) r.2.2.2.1 k7), upd (upd (upd (upd (tG (tAt r.2.2.1 L) r.2.2.2.1 z r.2.2.2.2 k7) 2 ((tAt r.2.2.1 L) (tU (tAt r.2.2.1 L) k7))) 3 (nI (rdBrk (tAt r.2.2.1 L) (tU (tAt r.2.2.1 L) k7)))) 6 (tCau (tAt r.2.2.1 L) r.2.2.2.1 z k7)) 4 (nI (tU (tAt r.2.2.1 L) k7))) V) sz 0 0 66 [(0, .ref o), (1, .int (nI (tU (tAt r.2.2.1 L) k7))), (2, .int (rdAns (tAt r.2.2.1 L) (tU (tAt r.2.2.1 L) k7)))] [.int (tRea (tAt r.2.2.1 L) k7), .ref o] := by
              refine G.putM (pc := 66) cx dX10_doText_66 10 5 wm_fl_X10_220 (by decide) rfl ?_
              refine G.iconst (pc := 69) cx dX10_doText_69 (v := 0) (by decide) ?_
              refine G.zret (pc := 70) cx rfl dX10_doText_70 rfl ?_ ?_ rfl
              · refine congrArg (fun x => some (Value.int x)) ?_
                (try clear J66_3); (try clear J37_2); (try clear L7_1); (try clear ih7); (try clear hin9); (try clear cx); refine (b2_f ?_).symm.symm; rw [hKk]; omega
              · show _ = _
                (try clear J66_3); (try clear J37_2); (try clear L7_1); (try clear ih7); (try clear hin9); (try clear cx); simp only [txR, txN, txG]; rw [hKk, if_neg (by omega), if_neg (by omega)]; rfl
            refine G.if_ge (pc := 58) cx dX10_doText_58 (tgt := 65) (by decide) (fun cq58 => ?_) (fun cq58 => ?_)
            · skip
              refine G.iconst (pc := 65) cx dX10_doText_65 (v := 2) (by decide) ?_
              refine G.castS (st' := [.int (tRea (tAt r.2.2.1 L) k7), .ref o]) (congrArg (fun q9 => ([.int q9, .ref o] : List Value)) (show (2 : Int32) = tRea (tAt r.2.2.1 L) k7 from by first | exact (if_pos (Int32.not_le.mp cq58)).symm | exact (if_neg (Int32.not_lt.mpr cq58)).symm)) ?_
              exact J66_3
            · skip
              refine G.iconst (pc := 61) cx dX10_doText_61 (v := 1) (by decide) ?_
              refine G.goto (pc := 62) cx dX10_doText_62 (tgt := 66) (by decide) ?_
              refine G.castS (st' := [.int (tRea (tAt r.2.2.1 L) k7), .ref o]) (congrArg (fun q9 => ([.int q9, .ref o] : List Value)) (show (1 : Int32) = tRea (tAt r.2.2.1 L) k7 from by first | exact (if_pos (Int32.not_le.mp cq58)).symm | exact (if_neg (Int32.not_lt.mpr cq58)).symm)) ?_
              exact J66_3
          · skip
            refine G.aload_n (pc := 44) cx dX10_doText_44 rfl 0 rfl ?_
            refine G.getM (pc := 45) cx dX10_doText_45 11 wm_fl_X10_214 (by decide) (congrArg (fun x => some (Value.int x)) (upd_s (upd (upd (tG (tAt r.2.2.1 L) r.2.2.2.1 z r.2.2.2.2 k7) 2 ((tAt r.2.2.1 L) (tU (tAt r.2.2.1 L) k7))) 3 (nI (rdBrk (tAt r.2.2.1 L) (tU (tAt r.2.2.1 L) k7)))) 6 (tCau (tAt r.2.2.1 L) r.2.2.2.1 z k7))) ?_
            refine G.if_ge (pc := 48) cx dX10_doText_48 (tgt := 71) (by decide) (fun cq48 => ?_) (fun cq48 => ?_)
            · skip
              have hCau : tCau (tAt r.2.2.1 L) r.2.2.2.1 z k7 = zNoOrd (tZ (tAt r.2.2.1 L) r.2.2.2.1 z k7) ((tAt r.2.2.1 L) (tU (tAt r.2.2.1 L) k7)) (tNu (tAt r.2.2.1 L) r.2.2.2.1 (k7 + 1)) := if_neg cq41
              have ho : 0 ≤ zNoOrd (tZ (tAt r.2.2.1 L) r.2.2.2.1 z k7) ((tAt r.2.2.1 L) (tU (tAt r.2.2.1 L) k7)) (tNu (tAt r.2.2.1 L) r.2.2.2.1 (k7 + 1)) := by rw [← hCau]; exact cq48
              obtain ⟨v9, hv1, hv2, hv3⟩ := rdAns_gt cq41
              have hnx : rdAns (tAt r.2.2.1 L) (tU (tAt r.2.2.1 L) k7) = nI (tU (tAt r.2.2.1 L) (k7 + 1)) := by show _ = nI (rdAns _ _).toNatClampNeg; rw [hv3, nI_clamp (by omega)]
              have hux : tU (tAt r.2.2.1 L) (k7 + 1) = v9 := by show (rdAns _ _).toNatClampNeg = v9; rw [hv3, nI_clamp (by omega)]
              have hnb : ¬ (rdAns (tAt r.2.2.1 L) (tU (tAt r.2.2.1 L) k7) < 0 ∨ tCau (tAt r.2.2.1 L) r.2.2.2.1 z k7 < 0) := fun h => h.elim cq41 (Int32.not_lt.mpr cq48)
              obtain ⟨N2, hN2, hNz2⟩ := zDoOrd_194 hNz hN1 ho
              refine G.aload_n (pc := 71) cx dX10_doText_71 rfl 0 rfl ?_
              refine G.callV0 (pc := 72) (rest := []) (st1 := [.int (zOrdR (tZ (tAt r.2.2.1 L) r.2.2.2.1 z k7) ((tAt r.2.2.1 L) (tU (tAt r.2.2.1 L) k7)) (rdNum (tAt r.2.2.1 L) (tU (tAt r.2.2.1 L) k7) (tNu (tAt r.2.2.1 L) r.2.2.2.1 k7)))]) cx (c_X10_doOrder l K sz o (tZ (tAt r.2.2.1 L) r.2.2.2.1 z k7) (r.1, r.2.1, r.2.2.1, rdNum (tAt r.2.2.1 L) (tU (tAt r.2.2.1 L) k7) (tNu (tAt r.2.2.1 L) r.2.2.2.1 k7), upd (upd (upd (tG (tAt r.2.2.1 L) r.2.2.2.1 z r.2.2.2.2 k7) 2 ((tAt r.2.2.1 L) (tU (tAt r.2.2.1 L) k7))) 3 (nI (rdBrk (tAt r.2.2.1 L) (tU (tAt r.2.2.1 L) k7)))) 6 (tCau (tAt r.2.2.1 L) r.2.2.2.1 z k7)) V ((tAt r.2.2.1 L) (tU (tAt r.2.2.1 L) k7)) N1 (by first | assumption | simp [upd]) (by exact hNz) (by omega) (by exact ho)) ok_X10_doOrder dX10_doText_72 wm_ml_X10_223 rfl mw_m rfl rfl (Nat.le_of_ble_eq_true rfl) ⟨Nat.le_of_ble_eq_true rfl, Nat.le_of_ble_eq_true rfl⟩ rfl ?_
              refine G.pop (pc := 75) cx dX10_doText_75 rfl ?_
              refine G.aload_n (pc := 76) cx dX10_doText_76 rfl 0 rfl ?_
              refine G.dup (pc := 77) cx dX10_doText_77 rfl ?_
              refine G.getM (pc := 78) cx dX10_doText_78 12 wm_fl_X10_205 (by decide) (congrArg (fun x => some (Value.int x)) ((upd_n (i := 6) (j := 7) (upd (upd (tG (tAt r.2.2.1 L) r.2.2.2.1 z r.2.2.2.2 k7) 2 ((tAt r.2.2.1 L) (tU (tAt r.2.2.1 L) k7))) 3 (nI (rdBrk (tAt r.2.2.1 L) (tU (tAt r.2.2.1 L) k7)))) (tCau (tAt r.2.2.1 L) r.2.2.2.1 z k7) (by omega)).trans ((upd_n (i := 3) (j := 7) (upd (tG (tAt r.2.2.1 L) r.2.2.2.1 z r.2.2.2.2 k7) 2 ((tAt r.2.2.1 L) (tU (tAt r.2.2.1 L) k7))) (nI (rdBrk (tAt r.2.2.1 L) (tU (tAt r.2.2.1 L) k7))) (by omega)).trans ((upd_n (i := 2) (j := 7) (tG (tAt r.2.2.1 L) r.2.2.2.1 z r.2.2.2.2 k7) ((tAt r.2.2.1 L) (tU (tAt r.2.2.1 L) k7)) (by omega)).trans ((tG_7 _ _ _ _ _)))))) ?_
              refine G.iconst (pc := 81) cx dX10_doText_81 (v := 1) (by decide) ?_
              refine G.iaddN (pc := 82) cx dX10_doText_82 k7 1 ?_
              refine G.putM (pc := 83) cx dX10_doText_83 12 7 wm_fl_X10_205 (by decide) rfl ?_
              refine G.iload_n (pc := 86) cx dX10_doText_86 rfl 2 rfl ?_
              refine G.istore_n (pc := 87) cx dX10_doText_87 rfl (by decide) rfl ?_
              refine G.goto (pc := 88) cx dX10_doText_88 (tgt := 7) (by decide) ?_
              refine G.cast (V' := (mw K o (tZ (tAt r.2.2.1 L) r.2.2.2.1 z (k7 + 1)) (r.1, r.2.1, r.2.2.1, tNu (tAt r.2.2.1 L) r.2.2.2.1 (k7 + 1), tG (tAt r.2.2.1 L) r.2.2.2.1 z r.2.2.2.2 (k7 + 1)) V)) (by first | exact hnx | (rw [hCau]; rfl)) ?_
              refine G.castL (lv' := [(0, .ref o), (1, .int (rdAns (tAt r.2.2.1 L) (tU (tAt r.2.2.1 L) k7)))]) [1, 0] rfl ?_
              refine G.lv0 (lv2 := [(0, .ref o), (1, .int (nI (tU (tAt r.2.2.1 L) (k7 + 1))))]) (congrArg (fun q9 => ([(0, .ref o), (1, .int q9)] : List (Nat × Value))) (show (rdAns (tAt r.2.2.1 L) (tU (tAt r.2.2.1 L) k7) : Int32) = nI (tU (tAt r.2.2.1 L) (k7 + 1)) from by first | exact hnx | (rw [hCau]; rfl))) ?_
              exact ih7 (k7 + 1) (by omega) (by omega) (by first | exact (txK_s (by omega) (by omega) hnb).symm.trans hK | (rw [hux]; omega) | exact ⟨N2, hN2, hNz2⟩) (by first | exact (txK_s (by omega) (by omega) hnb).symm.trans hK | (rw [hux]; omega) | exact ⟨N2, hN2, hNz2⟩) (by first | exact (txK_s (by omega) (by omega) hnb).symm.trans hK | (rw [hux]; omega) | exact ⟨N2, hN2, hNz2⟩) (by first | exact (txK_s (by omega) (by omega) hnb).symm.trans hK | (rw [hux]; omega) | exact ⟨N2, hN2, hNz2⟩)
            · skip
              have hb9 : rdAns (tAt r.2.2.1 L) (tU (tAt r.2.2.1 L) k7) < 0 ∨ tCau (tAt r.2.2.1 L) r.2.2.2.1 z k7 < 0 := Or.inr (Int32.not_le.mp cq48)
              have hKk := hK.symm.trans (txK_b (by omega) hb9)
              refine G.aload_n (pc := 51) cx dX10_doText_51 rfl 0 rfl ?_
              refine G.iload_n (pc := 52) cx dX10_doText_52 rfl 1 rfl ?_
              refine G.putM (pc := 53) cx dX10_doText_53 9 4 wm_fl_X10_217 (by decide) rfl ?_
              refine G.aload_n (pc := 56) cx dX10_doText_56 rfl 0 rfl ?_
              refine G.iload_n (pc := 57) cx dX10_doText_57 rfl 2 rfl ?_
              have J66_4 : G K p9 l e9 (rmL 6 0 0) s9 m9 a9 b9 t9 c9 (MQ b9 (QCt K (some (.int (b2 (L ≤ tU (tAt r.2.2.1 L) (txK (tAt r.2.2.1 L) L r.2.2.2.1 z L 0))))) (mw K o (tZ (tAt r.2.2.1 L) r.2.2.2.1 z (txK (tAt r.2.2.1 L) L r.2.2.2.1 z L 0)) (txR r (tAt r.2.2.1 L) L z) V) sz) a9 s9 0 0 (kA K)) 3 (mw K o (tZ (tAt r.2.2.1 L) r.2.2.2.1 z k7) (r.1, r.2.1, r.2.2.1, rdNum (tAt r.2.2.1 L) (tU (tAt r.2.2.1 L) k7) (tNu (tAt r.2.2.1 L) r.2.2.2.1 k7), upd (upd (upd (upd (tG (tAt r.2.2.1 L) r.2.2.2.1 z r.2.2.2.2 k7) 2 ((tAt r.2.2.1 L) (tU (tAt r.2.2.1 L) k7))) 3 (nI (rdBrk (tAt r.2.2.1 L) (tU (tAt r.2.2.1 L) k7)))) 6 (tCau (tAt r.2.2.1 L) r.2.2.2.1 z k7)) 4 (nI (tU (tAt r.2.2.1 L) k7))) V) sz 0 0 66 [(0, .ref o), (1, .int (nI (tU (tAt r.2.2.1 L) k7))), (2, .int (rdAns (tAt r.2.2.1 L) (tU (tAt r.2.2.1 L) k7)))] [.int (tRea (tAt r.2.2.1 L) k7), .ref o] := by
                refine G.putM (pc := 66) cx dX10_doText_66 10 5 wm_fl_X10_220 (by decide) rfl ?_
                refine G.iconst (pc := 69) cx dX10_doText_69 (v := 0) (by decide) ?_
                refine G.zret (pc := 70) cx rfl dX10_doText_70 rfl ?_ ?_ rfl
                · refine congrArg (fun x => some (Value.int x)) ?_
                  (try clear J66_4); (try clear J66_3); (try clear J37_2); (try clear L7_1); (try clear ih7); (try clear hin9); (try clear cx); refine (b2_f ?_).symm.symm; rw [hKk]; omega
                · show _ = _
                  (try clear J66_4); (try clear J66_3); (try clear J37_2); (try clear L7_1); (try clear ih7); (try clear hin9); (try clear cx); simp only [txR, txN, txG]; rw [hKk, if_neg (by omega), if_neg (by omega)]; rfl
              refine G.if_ge (pc := 58) cx dX10_doText_58 (tgt := 65) (by decide) (fun cq58 => ?_) (fun cq58 => ?_)
              · skip
                refine G.iconst (pc := 65) cx dX10_doText_65 (v := 2) (by decide) ?_
                refine G.castS (st' := [.int (tRea (tAt r.2.2.1 L) k7), .ref o]) (congrArg (fun q9 => ([.int q9, .ref o] : List Value)) (show (2 : Int32) = tRea (tAt r.2.2.1 L) k7 from by first | exact (if_pos (Int32.not_le.mp cq58)).symm | exact (if_neg (Int32.not_lt.mpr cq58)).symm)) ?_
                exact J66_4
              · skip
                refine G.iconst (pc := 61) cx dX10_doText_61 (v := 1) (by decide) ?_
                refine G.goto (pc := 62) cx dX10_doText_62 (tgt := 66) (by decide) ?_
                refine G.castS (st' := [.int (tRea (tAt r.2.2.1 L) k7), .ref o]) (congrArg (fun q9 => ([.int q9, .ref o] : List Value)) (show (1 : Int32) = tRea (tAt r.2.2.1 L) k7 from by first | exact (if_pos (Int32.not_le.mp cq58)).symm | exact (if_neg (Int32.not_lt.mpr cq58)).symm)) ?_
                exact J66_4
        refine G.if_ge (pc := 23) cx dX10_doText_23 (tgt := 33) (by decide) (fun cq23 => ?_) (fun cq23 => ?_)
        · skip
          refine G.aload_n (pc := 33) cx dX10_doText_33 rfl 1 rfl ?_
          refine G.callV0 (pc := 34) (rest := [.ref o]) (st1 := [.int (zNoOrd (tZ (tAt r.2.2.1 L) r.2.2.2.1 z k7) ((tAt r.2.2.1 L) (tU (tAt r.2.2.1 L) k7)) (rdNum (tAt r.2.2.1 L) (tU (tAt r.2.2.1 L) k7) (tNu (tAt r.2.2.1 L) r.2.2.2.1 k7))), .ref o]) cx (c_X10_noOrder l K sz o (tZ (tAt r.2.2.1 L) r.2.2.2.1 z k7) (r.1, r.2.1, r.2.2.1, rdNum (tAt r.2.2.1 L) (tU (tAt r.2.2.1 L) k7) (tNu (tAt r.2.2.1 L) r.2.2.2.1 k7), upd (upd (tG (tAt r.2.2.1 L) r.2.2.2.1 z r.2.2.2.2 k7) 2 ((tAt r.2.2.1 L) (tU (tAt r.2.2.1 L) k7))) 3 (nI (rdBrk (tAt r.2.2.1 L) (tU (tAt r.2.2.1 L) k7)))) V ((tAt r.2.2.1 L) (tU (tAt r.2.2.1 L) k7)) N1 (by first | assumption | simp [upd]) (by exact hNz) (by omega)) ok_X10_noOrder dX10_doText_34 wm_ml_X10_211 rfl mw_m rfl rfl (Nat.le_of_ble_eq_true rfl) ⟨Nat.le_of_ble_eq_true rfl, Nat.le_of_ble_eq_true rfl⟩ rfl ?_
          refine G.castS (st' := [.int (tCau (tAt r.2.2.1 L) r.2.2.2.1 z k7), .ref o]) (congrArg (fun q9 => ([.int q9, .ref o] : List Value)) (show (zNoOrd (tZ (tAt r.2.2.1 L) r.2.2.2.1 z k7) ((tAt r.2.2.1 L) (tU (tAt r.2.2.1 L) k7)) (rdNum (tAt r.2.2.1 L) (tU (tAt r.2.2.1 L) k7) (tNu (tAt r.2.2.1 L) r.2.2.2.1 k7)) : Int32) = tCau (tAt r.2.2.1 L) r.2.2.2.1 z k7 from by first | exact (if_pos (Int32.not_le.mp cq23)).symm | exact (if_neg (Int32.not_lt.mpr cq23)).symm)) ?_
          refine G.castL (lv' := [(0, .ref o), (1, .int (nI (tU (tAt r.2.2.1 L) k7))), (2, .int (rdAns (tAt r.2.2.1 L) (tU (tAt r.2.2.1 L) k7)))]) [1, 2, 0] rfl ?_
          exact J37_2
        · skip
          refine G.aload_n (pc := 26) cx dX10_doText_26 rfl 1 rfl ?_
          refine G.getM (pc := 27) cx dX10_doText_27 8 wm_fl_X10_202 (by decide) (congrArg (fun x => some (Value.int x)) (upd_s (upd (tG (tAt r.2.2.1 L) r.2.2.2.1 z r.2.2.2.2 k7) 2 ((tAt r.2.2.1 L) (tU (tAt r.2.2.1 L) k7))) 3 (nI (rdBrk (tAt r.2.2.1 L) (tU (tAt r.2.2.1 L) k7))))) ?_
          refine G.goto (pc := 30) cx dX10_doText_30 (tgt := 37) (by decide) ?_
          refine G.castS (st' := [.int (tCau (tAt r.2.2.1 L) r.2.2.2.1 z k7), .ref o]) (congrArg (fun q9 => ([.int q9, .ref o] : List Value)) (show (nI (rdBrk (tAt r.2.2.1 L) (tU (tAt r.2.2.1 L) k7)) : Int32) = tCau (tAt r.2.2.1 L) r.2.2.2.1 z k7 from by first | exact (if_pos (Int32.not_le.mp cq23)).symm | exact (if_neg (Int32.not_lt.mpr cq23)).symm)) ?_
          refine G.castL (lv' := [(0, .ref o), (1, .int (nI (tU (tAt r.2.2.1 L) k7))), (2, .int (rdAns (tAt r.2.2.1 L) (tU (tAt r.2.2.1 L) k7)))]) [1, 2, 0] rfl ?_
          exact J37_2
  refine G.cast (V' := (mw K o (tZ (tAt r.2.2.1 L) r.2.2.2.1 z 0) (r.1, r.2.1, r.2.2.1, tNu (tAt r.2.2.1 L) r.2.2.2.1 0, tG (tAt r.2.2.1 L) r.2.2.2.1 z r.2.2.2.2 0) V)) (by rfl) ?_
  refine G.castL (lv' := [(0, .ref o), (1, .int 0)]) [1, 0] rfl ?_
  refine G.lv0 (lv2 := [(0, .ref o), (1, .int (nI (tU (tAt r.2.2.1 L) 0)))]) (congrArg (fun q9 => ([(0, .ref o), (1, .int q9)] : List (Nat × Value))) (show (0 : Int32) = nI (tU (tAt r.2.2.1 L) 0) from by rfl)) ?_
  exact L7_1 (L + 1) 0 (by omega) (by omega) (by first | rfl | exact Nat.zero_le _ | exact ⟨N, h16, hN⟩) (by first | rfl | exact Nat.zero_le _ | exact ⟨N, h16, hN⟩) (by first | rfl | exact Nat.zero_le _ | exact ⟨N, h16, hN⟩) (by first | rfl | exact Nat.zero_le _ | exact ⟨N, h16, hN⟩)
