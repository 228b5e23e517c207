set_option maxHeartbeats 4000000 in
set_option maxRecDepth 100000 in
theorem c_X5_runThrough (l : Launch) (K : KT) (sz : Nat) (x : Nat) (z : Zt) (t : Zt) (h : Nat → Zt) (π : Nat → Nat) (f : Zt) (u : Zt) (g : Zt) (V : VW) (n : Nat) (hL : g 1 = nI n) (hn : n ≤ 60) (hZ : ∀ k, k ≤ cxK (cAt f n) n u t 60 0 → ∃ N1, N1 ≤ 16 ∧ cTz (cAt f n) u t k 194 = nI N1) : Ct l K yX5_runThrough cX5_runThrough 5 none 7 [.ref (x + 191), .ref (x + 189), .ref (x + 32)] (ww K x z t h π f u g V) sz none (ww K x z (cxZ (cAt f n) n u t) h π f (cxN (cAt f n) n u t) (cxG (cAt f n) n u t g) V) sz 0 0 := by
  refine Ct.ofG (by decide) (Nat.le_of_ble_eq_true rfl) ?_
  intro p9 e9 s9 m9 a9 b9 t9 c9 cx hin9
  refine G.lv0 (lv2 := [(0, .ref (x + 191)), (1, .ref (x + 189)), (2, .ref (x + 32))]) rfl ?_
  refine G.aload_n (pc := 0) cx dX5_runThrough_0 rfl 0 rfl ?_
  refine G.iconst (pc := 1) cx dX5_runThrough_1 (v := 0) (by decide) ?_
  refine G.putDo (pc := 2) cx dX5_runThrough_2 wm_fl_X5_18 ?_
  refine G.aload_n (pc := 5) cx dX5_runThrough_5 rfl 0 rfl ?_
  refine G.iconst (pc := 6) cx dX5_runThrough_6 (v := 0) (by decide) ?_
  refine G.putPo (pc := 7) cx dX5_runThrough_7 wm_fl_X5_22 ?_
  refine G.aload_n (pc := 10) cx dX5_runThrough_10 rfl 0 rfl ?_
  refine G.iconst (pc := 11) cx dX5_runThrough_11 (v := 0) (by decide) ?_
  refine G.putRe (pc := 12) cx dX5_runThrough_12 wm_fl_X5_25 ?_
  refine G.aload_n (pc := 15) cx dX5_runThrough_15 rfl 0 rfl ?_
  refine G.iconst (pc := 16) cx dX5_runThrough_16 (v := 0) (by decide) ?_
  refine G.putCa (pc := 17) cx dX5_runThrough_17 wm_fl_X5_28 ?_
  refine G.iconst (pc := 20) cx dX5_runThrough_20 (v := 0) (by decide) ?_
  refine G.istore_n (pc := 21) cx dX5_runThrough_21 rfl (by decide) rfl ?_
  have L22_1 : ∀ (fz k22 : Nat), 60 - k22 < fz → k22 ≤ 60 → (cxK (cAt f n) n u t (60 - k22) k22 = cxK (cAt f n) n u t 60 0) → (k22 ≤ tU (cAt f n) k22) → (tU (cAt f n) k22 ≤ 74) → G K p9 l e9 (rmL 7 0 0) s9 m9 a9 b9 t9 c9 (MQ b9 (QCt K none (ww K x z (cxZ (cAt f n) n u t) h π f (cxN (cAt f n) n u t) (cxG (cAt f n) n u t g) V) sz) a9 s9 0 0 (kA K)) 5 (ww K x z (cTz (cAt f n) u t k22) h π f (cTnu (cAt f n) u k22) (cTG (cAt f n) g k22) V) sz 0 0 22 [(0, .ref (x + 191)), (1, .ref (x + 189)), (2, .ref (x + 32)), (3, .int (nI k22))] [] := by
    intro fz
    induction fz with
    | zero => intro k22 h9; omega
    | succ fz ih22 =>
      intro k22 h922 h822 hK hku hub
      refine G.iload_n (pc := 22) cx dX5_runThrough_22 rfl 3 rfl ?_
      refine G.bipush (pc := 23) cx dX5_runThrough_23 (v := 60) (by decide) ?_
      refine G.icmp_geN (pc := 25) cx k22 60 (by omega) (by omega) dX5_runThrough_25 (tgt := 130) (by decide) (fun cq25 => ?_) (fun cq25 => ?_)
      · skip
        have hend : n ≤ tU (cAt f n) k22 := by omega
        have hKk := hK.symm.trans (cxK_e hend)
        refine G.vret (pc := 130) cx rfl dX5_runThrough_130 rfl ?_ rfl
        · show _ = _
          (try clear L22_1); (try clear ih22); (try clear hin9); (try clear cx); simp only [cxG, cxN, cxZ]; rw [hKk, if_pos hend, if_pos hend, if_pos hend]
      · skip
        refine G.aload_n (pc := 28) cx dX5_runThrough_28 rfl 0 rfl ?_
        refine G.getV (pc := 29) cx dX5_runThrough_29 (T := TX5) 2 wm_fl_X5_22 inlX5 rfl (by decide) ww_r (congrArg (fun x => some (Value.int x)) ((cTG_3 _ _ _))) ?_
        refine G.aload_n (pc := 32) cx dX5_runThrough_32 rfl 1 rfl ?_
        refine G.getV (pc := 33) cx dX5_runThrough_33 (T := TX7) 1 wm_fl_X5_31 inlX7 rfl (by decide) ww_t (congrArg (fun x => some (Value.int x)) (((cTG_k _ _ (by omega) _).trans hL))) ?_
        refine G.icmp_geN (pc := 36) cx (tU (cAt f n) k22) n (by omega) (by omega) dX5_runThrough_36 (tgt := 130) (by decide) (fun cq36 => ?_) (fun cq36 => ?_)
        · skip
          have hend : n ≤ tU (cAt f n) k22 := by omega
          have hKk := hK.symm.trans (cxK_e hend)
          refine G.vret (pc := 130) cx rfl dX5_runThrough_130 rfl ?_ rfl
          · show _ = _
            (try clear L22_1); (try clear ih22); (try clear hin9); (try clear cx); simp only [cxG, cxN, cxZ]; rw [hKk, if_pos hend, if_pos hend, if_pos hend]
        · skip
          refine G.aload_n (pc := 39) cx dX5_runThrough_39 rfl 0 rfl ?_
          refine G.getV (pc := 40) cx dX5_runThrough_40 (T := TX5) 0 wm_fl_X5_12 inlX5 rfl (by decide) ww_r rfl ?_
          refine G.aload_n (pc := 43) cx dX5_runThrough_43 rfl 1 rfl ?_
          refine G.aload_n (pc := 44) cx dX5_runThrough_44 rfl 0 rfl ?_
          refine G.getV (pc := 45) cx dX5_runThrough_45 (T := TX5) 2 wm_fl_X5_22 inlX5 rfl (by decide) ww_r (congrArg (fun x => some (Value.int x)) ((cTG_3 _ _ _))) ?_
          refine G.callV0 (pc := 48) (rest := []) (st1 := [.int (b2 (¬ rdAns (cAt f n) (tU (cAt f n) k22) < 0))]) cx (c_X4_readFrom l K sz x z (cTz (cAt f n) u t k22) h π f (cTnu (cAt f n) u k22) (cTG (cAt f n) g k22) V (tU (cAt f n) k22) n (by exact (cTG_k _ _ (by omega) _).trans hL) (by omega) (by omega)) ok_X4_readFrom dX5_runThrough_48 wm_ml_X5_36 rfl ww_o rfl rfl (Nat.le_of_ble_eq_true rfl) ⟨Nat.le_of_ble_eq_true rfl, Nat.le_of_ble_eq_true rfl⟩ rfl ?_
          refine G.if_neB (pc := 51) cx dX5_runThrough_51 (tgt := 76) (by decide) (fun cq51 => ?_) (fun cq51 => ?_)
          · skip
            obtain ⟨N1, hN1, hNz⟩ := hZ k22 (hK ▸ cxK_ge _ _ _ _ _ _)
            refine G.aload_n (pc := 76) cx dX5_runThrough_76 rfl 0 rfl ?_
            refine G.getV (pc := 77) cx dX5_runThrough_77 (T := TX5) 0 wm_fl_X5_12 inlX5 rfl (by decide) ww_r rfl ?_
            refine G.aload_n (pc := 80) cx dX5_runThrough_80 rfl 2 rfl ?_
            refine G.callV0 (pc := 81) (rest := []) (st1 := [.int (cOrdA (cTz (cAt f n) u t k22) (cAt f n (tU (cAt f n) k22)) (crNum (cAt f n) (tU (cAt f n) k22) (cTnu (cAt f n) u k22)))]) cx (c_X4_carryOut l K sz x z (cTz (cAt f n) u t k22) h π f (crNum (cAt f n) (tU (cAt f n) k22) (cTnu (cAt f n) u k22)) (upd (upd (cTG (cAt f n) g k22) 6 (cAt f n (tU (cAt f n) k22))) 7 (nI (crPl (cAt f n) (tU (cAt f n) k22)))) V (cAt f n (tU (cAt f n) k22)) N1 (by first | assumption | rfl) (by assumption) (by omega)) ok_X4_carryOut dX5_runThrough_81 wm_ml_X5_43 rfl ww_o rfl rfl (Nat.le_of_ble_eq_true rfl) ⟨Nat.le_of_ble_eq_true rfl, Nat.le_of_ble_eq_true rfl⟩ rfl ?_
            refine G.istore (pc := 84) cx dX5_runThrough_84 (by decide) rfl ?_
            refine G.iload (pc := 86) cx dX5_runThrough_86 0 rfl ?_
            refine G.if_ge (pc := 88) cx dX5_runThrough_88 (tgt := 103) (by decide) (fun cq88 => ?_) (fun cq88 => ?_)
            · skip
              have hb9 : ¬ cAns (cAt f n) u t k22 < 0 := Int32.not_lt.mpr cq88
              have hnb : ¬ (rdAns (cAt f n) (tU (cAt f n) k22) < 0 ∨ cAns (cAt f n) u t k22 < 0) := fun q9 => q9.elim cq51 hb9
              obtain ⟨v9, hv1, hv2, hv3⟩ := rdAns_gt cq51
              have hux : tU (cAt f n) (k22 + 1) = v9 := by show (rdAns _ _).toNatClampNeg = v9; rw [hv3, nI_clamp (by omega)]
              have hpl := crPl_ok cq51
              refine G.aload_n (pc := 103) cx dX5_runThrough_103 rfl 1 rfl ?_
              refine G.aload_n (pc := 104) cx dX5_runThrough_104 rfl 1 rfl ?_
              refine G.getV (pc := 105) cx dX5_runThrough_105 (T := TX5) 0 wm_fl_X5_12 inlX5 rfl (by decide) ww_r rfl ?_
              refine G.getV (pc := 108) cx dX5_runThrough_108 (T := TX4) 2 wm_fl_X5_40 inlX4 rfl (by decide) ww_o (congrArg (fun x => some (Value.int x)) (upd_s (upd (cTG (cAt f n) g k22) 6 (cAt f n (tU (cAt f n) k22))) 7 (nI (crPl (cAt f n) (tU (cAt f n) k22))))) ?_
              refine G.putPo (pc := 111) cx dX5_runThrough_111 wm_fl_X5_22 ?_
              refine G.aload_n (pc := 114) cx dX5_runThrough_114 rfl 1 rfl ?_
              refine G.dup (pc := 115) cx dX5_runThrough_115 rfl ?_
              refine G.getV (pc := 116) cx dX5_runThrough_116 (T := TX5) 1 wm_fl_X5_18 inlX5 rfl (by decide) ww_r (congrArg (fun x => some (Value.int x)) ((upd_n (i := 3) (j := 2) (upd (upd (cTG (cAt f n) g k22) 6 (cAt f n (tU (cAt f n) k22))) 7 (nI (crPl (cAt f n) (tU (cAt f n) k22)))) (nI (crPl (cAt f n) (tU (cAt f n) k22))) (by omega)).trans ((upd_n (i := 7) (j := 2) (upd (cTG (cAt f n) g k22) 6 (cAt f n (tU (cAt f n) k22))) (nI (crPl (cAt f n) (tU (cAt f n) k22))) (by omega)).trans ((upd_n (i := 6) (j := 2) (cTG (cAt f n) g k22) (cAt f n (tU (cAt f n) k22)) (by omega)).trans ((cTG_2 _ _ _)))))) ?_
              refine G.iconst (pc := 119) cx dX5_runThrough_119 (v := 1) (by decide) ?_
              refine G.iaddN (pc := 120) cx dX5_runThrough_120 k22 1 ?_
              refine G.putDo (pc := 121) cx dX5_runThrough_121 wm_fl_X5_18 ?_
              refine G.iinc (pc := 124) cx dX5_runThrough_124 (v := nI (k22 + 1)) (k := 4) rfl (nI_add k22 1) (by decide) rfl ?_
              refine G.goto (pc := 127) cx dX5_runThrough_127 (tgt := 22) (by decide) ?_
              refine G.cast (V' := (ww K x z (cTz (cAt f n) u t (k22 + 1)) h π f (crNum (cAt f n) (tU (cAt f n) k22) (cTnu (cAt f n) u k22)) (upd (upd (upd (upd (cTG (cAt f n) g k22) 6 (cAt f n (tU (cAt f n) k22))) 7 (nI (crPl (cAt f n) (tU (cAt f n) k22)))) 3 (nI (crPl (cAt f n) (tU (cAt f n) k22)))) 2 (nI (k22 + 1))) V)) (congrArg (fun q9 => ww K x z q9 h π f (crNum (cAt f n) (tU (cAt f n) k22) (cTnu (cAt f n) u k22)) (upd (upd (upd (upd (cTG (cAt f n) g k22) 6 (cAt f n (tU (cAt f n) k22))) 7 (nI (crPl (cAt f n) (tU (cAt f n) k22)))) 3 (nI (crPl (cAt f n) (tU (cAt f n) k22)))) 2 (nI (k22 + 1))) V) (show (cOrdD (cTz (cAt f n) u t k22) (cAt f n (tU (cAt f n) k22)) (crNum (cAt f n) (tU (cAt f n) k22) (cTnu (cAt f n) u k22))) = (cTz (cAt f n) u t (k22 + 1)) from by first | rfl | (rw [hpl]; rfl))) ?_
              refine G.cast (V' := (ww K x z (cTz (cAt f n) u t (k22 + 1)) h π f (cTnu (cAt f n) u (k22 + 1)) (upd (upd (upd (upd (cTG (cAt f n) g k22) 6 (cAt f n (tU (cAt f n) k22))) 7 (nI (crPl (cAt f n) (tU (cAt f n) k22)))) 3 (nI (crPl (cAt f n) (tU (cAt f n) k22)))) 2 (nI (k22 + 1))) V)) (congrArg (fun q9 => ww K x z (cTz (cAt f n) u t (k22 + 1)) h π f q9 (upd (upd (upd (upd (cTG (cAt f n) g k22) 6 (cAt f n (tU (cAt f n) k22))) 7 (nI (crPl (cAt f n) (tU (cAt f n) k22)))) 3 (nI (crPl (cAt f n) (tU (cAt f n) k22)))) 2 (nI (k22 + 1))) V) (show (crNum (cAt f n) (tU (cAt f n) k22) (cTnu (cAt f n) u k22)) = (cTnu (cAt f n) u (k22 + 1)) from by first | rfl | (rw [hpl]; rfl))) ?_
              refine G.cast (V' := (ww K x z (cTz (cAt f n) u t (k22 + 1)) h π f (cTnu (cAt f n) u (k22 + 1)) (cTG (cAt f n) g (k22 + 1)) V)) (congrArg (fun q9 => ww K x z (cTz (cAt f n) u t (k22 + 1)) h π f (cTnu (cAt f n) u (k22 + 1)) q9 V) (show (upd (upd (upd (upd (cTG (cAt f n) g k22) 6 (cAt f n (tU (cAt f n) k22))) 7 (nI (crPl (cAt f n) (tU (cAt f n) k22)))) 3 (nI (crPl (cAt f n) (tU (cAt f n) k22)))) 2 (nI (k22 + 1))) = (cTG (cAt f n) g (k22 + 1)) from by first | rfl | (rw [hpl]; rfl))) ?_
              refine G.castL (lv' := [(0, .ref (x + 191)), (1, .ref (x + 189)), (2, .ref (x + 32)), (3, .int (nI (k22 + 1)))]) [2, 3, 4, 0] rfl ?_
              exact ih22 (k22 + 1) (by omega) (by omega) (by first | exact (cxK_s (by omega) (by omega) hnb).symm.trans hK | (rw [hux]; omega)) (by first | exact (cxK_s (by omega) (by omega) hnb).symm.trans hK | (rw [hux]; omega)) (by first | exact (cxK_s (by omega) (by omega) hnb).symm.trans hK | (rw [hux]; omega))
            · skip
              have hb9 : cAns (cAt f n) u t k22 < 0 := Int32.not_le.mp cq88
              have hKk := hK.symm.trans (cxK_b (by omega) (Or.inr hb9))
              refine G.aload_n (pc := 91) cx dX5_runThrough_91 rfl 1 rfl ?_
              refine G.iconst (pc := 92) cx dX5_runThrough_92 (v := 2) (by decide) ?_
              refine G.putRe (pc := 93) cx dX5_runThrough_93 wm_fl_X5_25 ?_
              refine G.aload_n (pc := 96) cx dX5_runThrough_96 rfl 1 rfl ?_
              refine G.iload (pc := 97) cx dX5_runThrough_97 0 rfl ?_
              refine G.putCa (pc := 99) cx dX5_runThrough_99 wm_fl_X5_28 ?_
              refine G.vret (pc := 102) cx rfl dX5_runThrough_102 rfl ?_ rfl
              · show _ = _
                (try clear L22_1); (try clear ih22); (try clear hin9); (try clear cx); simp only [cxG, cxN, cxZ]; have hno : ¬ n ≤ tU (cAt f n) k22 := (by omega); rw [hKk, if_neg hno, if_neg hno, if_neg hno, if_neg cq51]; simp only [cFail, cRea, cCau]; rw [if_neg cq51, if_neg cq51]; rfl
          · skip
            have hr := Decidable.not_not.mp cq51
            have hKk := hK.symm.trans (cxK_b (by omega) (Or.inl hr))
            have hbr := crPl_br hr
            have hbr2 : crPl (cAt f n) (tU (cAt f n) k22) - tU (cAt f n) k22 = rdBrk (cAt f n) (tU (cAt f n) k22) := by omega
            refine G.aload_n (pc := 54) cx dX5_runThrough_54 rfl 0 rfl ?_
            refine G.iconst (pc := 55) cx dX5_runThrough_55 (v := 1) (by decide) ?_
            refine G.putRe (pc := 56) cx dX5_runThrough_56 wm_fl_X5_25 ?_
            refine G.aload_n (pc := 59) cx dX5_runThrough_59 rfl 0 rfl ?_
            refine G.aload_n (pc := 60) cx dX5_runThrough_60 rfl 0 rfl ?_
            refine G.getV (pc := 61) cx dX5_runThrough_61 (T := TX5) 0 wm_fl_X5_12 inlX5 rfl (by decide) ww_r rfl ?_
            refine G.getV (pc := 64) cx dX5_runThrough_64 (T := TX4) 2 wm_fl_X5_40 inlX4 rfl (by decide) ww_o (congrArg (fun x => some (Value.int x)) ((upd_n (i := 4) (j := 7) (upd (upd (cTG (cAt f n) g k22) 6 (cAt f n (tU (cAt f n) k22))) 7 (nI (crPl (cAt f n) (tU (cAt f n) k22)))) 1 (by omega)).trans (upd_s (upd (cTG (cAt f n) g k22) 6 (cAt f n (tU (cAt f n) k22))) 7 (nI (crPl (cAt f n) (tU (cAt f n) k22)))))) ?_
            refine G.aload_n (pc := 67) cx dX5_runThrough_67 rfl 0 rfl ?_
            refine G.getV (pc := 68) cx dX5_runThrough_68 (T := TX5) 2 wm_fl_X5_22 inlX5 rfl (by decide) ww_r (congrArg (fun x => some (Value.int x)) ((upd_n (i := 4) (j := 3) (upd (upd (cTG (cAt f n) g k22) 6 (cAt f n (tU (cAt f n) k22))) 7 (nI (crPl (cAt f n) (tU (cAt f n) k22)))) 1 (by omega)).trans ((upd_n (i := 7) (j := 3) (upd (cTG (cAt f n) g k22) 6 (cAt f n (tU (cAt f n) k22))) (nI (crPl (cAt f n) (tU (cAt f n) k22))) (by omega)).trans ((upd_n (i := 6) (j := 3) (cTG (cAt f n) g k22) (cAt f n (tU (cAt f n) k22)) (by omega)).trans ((cTG_3 _ _ _)))))) ?_
            refine G.isubN (pc := 71) cx dX5_runThrough_71 (crPl (cAt f n) (tU (cAt f n) k22)) (tU (cAt f n) k22) (by omega) ?_
            refine G.putCa (pc := 72) cx dX5_runThrough_72 wm_fl_X5_28 ?_
            refine G.vret (pc := 75) cx rfl dX5_runThrough_75 rfl ?_ rfl
            · show _ = _
              (try clear L22_1); (try clear ih22); (try clear hin9); (try clear cx); simp only [cxG, cxN, cxZ]; have hno : ¬ n ≤ tU (cAt f n) k22 := (by omega); rw [hKk, if_neg hno, if_neg hno, if_neg hno, if_pos hr]; simp only [cFail, cRea, cCau]; rw [if_pos hr, if_pos hr, hbr2]; rfl
  refine G.cast (V' := (ww K x z (cTz (cAt f n) u t 0) h π f u (upd (upd (upd (upd g 2 0) 3 0) 4 0) 5 0) V)) (congrArg (fun q9 => ww K x z q9 h π f u (upd (upd (upd (upd g 2 0) 3 0) 4 0) 5 0) V) (show t = (cTz (cAt f n) u t 0) from by rfl)) ?_
  refine G.cast (V' := (ww K x z (cTz (cAt f n) u t 0) h π f (cTnu (cAt f n) u 0) (upd (upd (upd (upd g 2 0) 3 0) 4 0) 5 0) V)) (congrArg (fun q9 => ww K x z (cTz (cAt f n) u t 0) h π f q9 (upd (upd (upd (upd g 2 0) 3 0) 4 0) 5 0) V) (show u = (cTnu (cAt f n) u 0) from by rfl)) ?_
  refine G.cast (V' := (ww K x z (cTz (cAt f n) u t 0) h π f (cTnu (cAt f n) u 0) (cTG (cAt f n) g 0) V)) (congrArg (fun q9 => ww K x z (cTz (cAt f n) u t 0) h π f (cTnu (cAt f n) u 0) q9 V) (show (upd (upd (upd (upd g 2 0) 3 0) 4 0) 5 0) = (cTG (cAt f n) g 0) from by rfl)) ?_
  refine G.castL (lv' := [(0, .ref (x + 191)), (1, .ref (x + 189)), (2, .ref (x + 32)), (3, .int 0)]) [1, 2, 3, 0] rfl ?_
  refine G.lv0 (lv2 := [(0, .ref (x + 191)), (1, .ref (x + 189)), (2, .ref (x + 32)), (3, .int (nI 0))]) (congrArg (fun q9 => ([(0, .ref (x + 191)), (1, .ref (x + 189)), (2, .ref (x + 32)), (3, .int q9)] : List (Nat × Value))) (show (0 : Int32) = nI 0 from by rfl)) ?_
  exact L22_1 (60 + 1) 0 (by omega) (by omega) (by first | rfl | exact Nat.zero_le _) (by first | rfl | exact Nat.zero_le _) (by first | rfl | exact Nat.zero_le _)
