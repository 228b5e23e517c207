theorem tNum_m1 {q : Int32} (h : ¬ tNum q = -1) : ¬ tNum q < 0 := by
  unfold tNum at *
  split
  · decide
  split
  · decide
  split
  · decide
  split
  · decide
  simp_all
set_option maxHeartbeats 4000000 in
set_option maxRecDepth 100000 in
theorem c_X4_readFrom (l : Launch) (K : KT) (sz : Nat) (x : Nat) (z : Zt) (t : Zt) (h : Nat → Zt) (π : Nat → Nat) (f : Zt) (u : Zt) (g : Zt) (V : VW) (o : Nat) (n : Nat) (hL : g 1 = nI n) (hn : n ≤ 60) (ho : o < 60) : Ct l K yX4_readFrom cX4_readFrom 6 (some .boolean) 2 [.ref (x + 192), .ref (x + 189), .int (nI o)] (ww K x z t h π f u g V) sz (some (.int (b2 (¬ rdAns (cAt f n) o < 0)))) (ww K x z t h π f (crNum (cAt f n) o u) (upd (upd g 6 (cAt f n o)) 7 (nI (crPl (cAt f n) o))) V) sz 0 0 := by
  refine Ct.ofG (by decide) (Nat.le_of_ble_eq_true rfl) ?_
  intro p9 e9 s9 m9 a9 b9 t9 c9 cx hin9
  refine G.lv0 (lv2 := [(0, .ref (x + 192)), (1, .ref (x + 189)), (2, .int (nI o))]) rfl ?_
  refine G.aload_n (pc := 0) cx dX4_readFrom_0 rfl 0 rfl ?_
  refine G.iload_n (pc := 1) cx dX4_readFrom_1 rfl 2 rfl ?_
  refine G.putPl (pc := 2) cx dX4_readFrom_2 wm_fl_X4_15 ?_
  refine G.aload_n (pc := 5) cx dX4_readFrom_5 rfl 0 rfl ?_
  refine G.aload_n (pc := 6) cx dX4_readFrom_6 rfl 1 rfl ?_
  refine G.iload_n (pc := 7) cx dX4_readFrom_7 rfl 2 rfl ?_
  refine G.callV0 (pc := 8) (rest := [.ref (x + 192)]) (st1 := [.int (cAt f n o), .ref (x + 192)]) cx (c_X7_at l K sz x z t h π f u (upd g 7 (nI o)) V o n (by first | assumption | exact hL) (by omega) (by omega)) ok_X7_at dX4_readFrom_8 wm_ml_X4_19 rfl ww_t rfl rfl (Nat.le_of_ble_eq_true rfl) ⟨Nat.le_of_ble_eq_true rfl, Nat.le_of_ble_eq_true rfl⟩ rfl ?_
  refine G.putLt (pc := 11) cx dX4_readFrom_11 wm_fl_X4_25 ?_
  refine G.cast (V' := (ww K x z t h π f u (upd (upd g 6 (cAt f n o)) 7 (nI o)) V)) (congrArg (fun q9 => ww K x z t h π f u q9 V) (upd_76 _ _ _)) ?_
  refine G.aload_n (pc := 14) cx dX4_readFrom_14 rfl 0 rfl ?_
  refine G.getV (pc := 15) cx dX4_readFrom_15 (T := TX4) 1 wm_fl_X4_25 inlX4 rfl (by decide) ww_o (congrArg (fun x => some (Value.int x)) ((upd_n (i := 7) (j := 6) (upd g 6 (cAt f n o)) (nI o) (by omega)).trans (upd_s g 6 (cAt f n o)))) ?_
  refine G.callS0 (pc := 18) (rest := []) (st1 := [.int (tNum (cAt f n o))]) cx (c_X4_numbersOf l K sz (cAt f n o) (ww K x z t h π f u (upd (upd g 6 (cAt f n o)) 7 (nI o)) V)) ok_X4_numbersOf dX4_readFrom_18 wm_ml_X4_28 rfl rfl (Nat.le_of_ble_eq_true rfl) ⟨Nat.le_of_ble_eq_true rfl, Nat.le_of_ble_eq_true rfl⟩ rfl ?_
  refine G.istore_n (pc := 21) cx dX4_readFrom_21 rfl (by decide) rfl ?_
  refine G.iload_n (pc := 22) cx dX4_readFrom_22 rfl 0 rfl ?_
  refine G.iconst (pc := 23) cx dX4_readFrom_23 (v := (-1)) (by decide) ?_
  refine G.icmp_ne (pc := 24) cx dX4_readFrom_24 (tgt := 29) (by decide) (fun cq24 => ?_) (fun cq24 => ?_)
  · skip
    have h0 : ¬ tNum ((cAt f n) o) < 0 := tNum_m1 cq24
    obtain ⟨M, hM3, eM⟩ := tNum_nat (Int32.not_lt.mp h0)
    have eM2 : rdM (cAt f n) o = M := by unfold rdM; rw [eM]; exact nI_clamp (by omega)
    have hple := plF_le (cAt f n) M (o + 1)
    have hpge := plF_ge (cAt f n) M (o + 1)
    have hpe := plE_le (cAt f n) M (o + 1)
    have hnd := nDg_le (cAt f n)
    rw [eM]
    refine G.aload_n (pc := 29) cx dX4_readFrom_29 rfl 1 rfl ?_
    refine G.dup (pc := 30) cx dX4_readFrom_30 rfl ?_
    refine G.getV (pc := 31) cx dX4_readFrom_31 (T := TX4) 2 wm_fl_X4_15 inlX4 rfl (by decide) ww_o (congrArg (fun x => some (Value.int x)) (upd_s (upd g 6 (cAt f n o)) 7 (nI o))) ?_
    refine G.iconst (pc := 34) cx dX4_readFrom_34 (v := 1) (by decide) ?_
    refine G.iaddN (pc := 35) cx dX4_readFrom_35 o 1 ?_
    refine G.putPl (pc := 36) cx dX4_readFrom_36 wm_fl_X4_15 ?_
    refine G.iconst (pc := 39) cx dX4_readFrom_39 (v := 0) (by decide) ?_
    refine G.istore (pc := 40) cx dX4_readFrom_40 (by decide) rfl ?_
    have L42_1 : ∀ (fz k42 : Nat), M - k42 < fz → k42 ≤ M → (rdA (cAt f n) M (o + 1) (M - (k42 - 1)) (k42 - 1) = rdA (cAt f n) M (o + 1) M 0) → (rdB (cAt f n) M o (o + 1) (M - (k42 - 1)) (k42 - 1) = rdB (cAt f n) M o (o + 1) M 0) → (crU (cAt f n) M (o + 1) u (M - (k42 - 1)) (k42 - 1) = crU (cAt f n) M (o + 1) u M 0) → (k42 = 0 ∨ ¬ nDg (cAt f n) (plF (cAt f n) M (o + 1) (k42 - 1)) 3 0 = 0) → G K p9 l e9 (rmL 2 0 0) s9 m9 a9 b9 t9 c9 (MQ b9 (QCt K (some (.int (b2 (¬ rdAns (cAt f n) o < 0)))) (ww K x z t h π f (crNum (cAt f n) o u) (upd (upd g 6 (cAt f n o)) 7 (nI (crPl (cAt f n) o))) V) sz) a9 s9 0 0 (kA K)) 6 (ww K x z t h π f (nuF (cAt f n) M (o + 1) u k42) (upd (upd g 6 (cAt f n o)) 7 (nI (plE (cAt f n) M (o + 1) k42))) V) sz 0 0 42 [(3, .int (nI M)), (0, .ref (x + 192)), (1, .ref (x + 189)), (2, .int (nI o)), (4, .int (nI k42))] [] := by
      intro fz
      induction fz with
      | zero => intro k42 h9; omega
      | succ fz ih42 =>
        intro k42 h942 h842 hA hB hU hD
        refine G.iload (pc := 42) cx dX4_readFrom_42 4 rfl ?_
        refine G.iload_n (pc := 44) cx dX4_readFrom_44 rfl 0 rfl ?_
        refine G.icmp_geN (pc := 45) cx k42 M (by omega) (by omega) dX4_readFrom_45 (tgt := 104) (by decide) (fun cq45 => ?_) (fun cq45 => ?_)
        · skip
          have hp1 := hpe M
          have eM9 : k42 = M := by omega
          have hA9 := hA
          have hB9 := hB
          have hU9 := hU
          have hD9 := hD
          rw [eM9] at hA9 hB9 hU9 hD9
          obtain ⟨b1, b2_, b3⟩ := cr_last hD9 hA9 hB9 hU9
          obtain ⟨c1_, c2_, c3_⟩ := cr_end (by omega) hM3 h0 eM2 b1 b2_ b3
          have ex42 : k42 = M := by omega
          try rw [ex42]
          refine G.aload_n (pc := 104) cx dX4_readFrom_104 rfl 1 rfl ?_
          refine G.aload_n (pc := 105) cx dX4_readFrom_105 rfl 2 rfl ?_
          refine G.bipush (pc := 106) cx dX4_readFrom_106 (v := 59) (by decide) ?_
          refine G.callV0 (pc := 108) (rest := []) (st1 := [.int (b2 (cAt f n (plE (cAt f n) M (o + 1) M) = 59))]) cx (c_X4_readSign l K sz x z t h π f (nuF (cAt f n) M (o + 1) u M) (upd (upd g 6 (cAt f n o)) 7 (nI (plE (cAt f n) M (o + 1) M))) V 59 n (plE (cAt f n) M (o + 1) M) (by first | assumption | exact hL) (by omega) (by first | assumption | exact upd_s _ _ _) (by omega)) ok_X4_readSign dX4_readFrom_108 wm_ml_X4_31 rfl ww_o rfl rfl (Nat.le_of_ble_eq_true rfl) ⟨Nat.le_of_ble_eq_true rfl, Nat.le_of_ble_eq_true rfl⟩ rfl ?_
          refine G.zret (pc := 111) cx rfl dX4_readFrom_111 b2_narrow ?_ ?_ rfl
          · refine congrArg (fun x => some (Value.int x)) ?_
            (try clear L42_1); (try clear ih42); (try clear hin9); (try clear cx); by_cases h59 : cAt f n (plE (cAt f n) M (o + 1) M) = 59; exact (b2_t (c1_ h59).1).trans (b2_t h59).symm; exact (b2_f (fun q9 => q9 (c2_ h59).1)).trans (b2_f h59).symm
          · show _ = _
            (try clear L42_1); (try clear ih42); (try clear hin9); (try clear cx); by_cases h59 : cAt f n (plE (cAt f n) M (o + 1) M) = 59; rw [if_pos h59, (c1_ h59).2, c3_, upd_upd]; rw [if_neg h59, (c2_ h59).2, c3_]
        · skip
          have hp2 := hpe k42
          refine G.iload (pc := 48) cx dX4_readFrom_48 4 rfl ?_
          refine G.aload_n (pc := 50) cx dX4_readFrom_50 rfl 1 rfl ?_
          refine G.getV (pc := 51) cx dX4_readFrom_51 (T := TX4) 0 wm_fl_X4_9 inlX4 rfl (by decide) ww_o rfl ?_
          refine G.alenV (pc := 54) cx dX4_readFrom_54 0 rfl ww_nu (v := 3) rfl ?_
          refine G.icmp_geN (pc := 55) cx k42 3 (by omega) (by omega) dX4_readFrom_55 (tgt := 104) (by decide) (fun cq55 => ?_) (fun cq55 => ?_)
          · skip
            exact absurd cq55 (by omega)
          · skip
            refine G.iload (pc := 58) cx dX4_readFrom_58 4 rfl ?_
            refine G.if_leN (pc := 60) cx k42 (by omega) dX4_readFrom_60 (tgt := 75) (by decide) (fun cq60 => ?_) (fun cq60 => ?_)
            · skip
              have e0 : k42 - 1 = k42 := by omega
              have hp1 := hple k42
              have hA2 := hA
              have hB2 := hB
              have hU2 := hU
              rw [e0] at hA2 hB2 hU2
              refine G.cast (V' := (ww K x z t h π f (nuF (cAt f n) M (o + 1) u k42) (upd (upd g 6 (cAt f n o)) 7 (nI (plF (cAt f n) M (o + 1) k42))) V)) (congrArg (fun q9 => ww K x z t h π f (nuF (cAt f n) M (o + 1) u k42) q9 V) (show _ = _ from by rw [plE_0 (show k42 ≤ 0 by omega)])) ?_
              refine G.aload_n (pc := 75) cx dX4_readFrom_75 rfl 1 rfl ?_
              refine G.aload_n (pc := 76) cx dX4_readFrom_76 rfl 2 rfl ?_
              refine G.callV0 (pc := 77) (rest := []) (st1 := [.int (cNumV (cAt f n) (plF (cAt f n) M (o + 1) k42) (nDg (cAt f n) (plF (cAt f n) M (o + 1) k42) 3 0))]) cx (c_X4_readNumber l K sz x z t h π f (nuF (cAt f n) M (o + 1) u k42) (upd (upd g 6 (cAt f n o)) 7 (nI (plF (cAt f n) M (o + 1) k42))) V n (plF (cAt f n) M (o + 1) k42) (by first | assumption | exact hL) (by omega) (by first | assumption | exact upd_s _ _ _) (by omega)) ok_X4_readNumber dX4_readFrom_77 wm_ml_X4_35 rfl ww_o rfl rfl (Nat.le_of_ble_eq_true rfl) ⟨Nat.le_of_ble_eq_true rfl, Nat.le_of_ble_eq_true rfl⟩ rfl ?_
              refine G.istore (pc := 80) cx dX4_readFrom_80 (by decide) rfl ?_
              refine G.iload (pc := 82) cx dX4_readFrom_82 0 rfl ?_
              refine G.if_ge (pc := 84) cx dX4_readFrom_84 (tgt := 89) (by decide) (fun cq84 => ?_) (fun cq84 => ?_)
              · skip
                have hD0 := cNum_pos cq84
                refine G.aload_n (pc := 89) cx dX4_readFrom_89 rfl 2 rfl ?_
                refine G.getV (pc := 90) cx dX4_readFrom_90 (T := TX4) 0 wm_fl_X4_9 inlX4 rfl (by decide) ww_o rfl ?_
                refine G.iload (pc := 93) cx dX4_readFrom_93 5 rfl ?_
                refine G.iload (pc := 95) cx dX4_readFrom_95 0 rfl ?_
                refine G.iastC (pc := 97) cx dX4_readFrom_97 ww_nu (j := k42) rfl (by omega) (by decide) wwNu ?_
                refine G.iinc (pc := 98) cx dX4_readFrom_98 (v := nI (k42 + 1)) (k := 5) rfl (nI_add k42 1) (by decide) rfl ?_
                refine G.goto (pc := 101) cx dX4_readFrom_101 (tgt := 42) (by decide) ?_
                refine G.cast (V' := (ww K x z t h π f (nuF (cAt f n) M (o + 1) u (k42 + 1)) (upd (upd (upd g 6 (cAt f n o)) 7 (nI (plF (cAt f n) M (o + 1) k42))) 7 (nI (plF (cAt f n) M (o + 1) k42 + nDg (cAt f n) (plF (cAt f n) M (o + 1) k42) 3 0))) V)) (congrArg (fun q9 => ww K x z t h π f q9 (upd (upd (upd g 6 (cAt f n o)) 7 (nI (plF (cAt f n) M (o + 1) k42))) 7 (nI (plF (cAt f n) M (o + 1) k42 + nDg (cAt f n) (plF (cAt f n) M (o + 1) k42) 3 0))) V) (show (upd (nuF (cAt f n) M (o + 1) u k42) k42 (cNumV (cAt f n) (plF (cAt f n) M (o + 1) k42) (nDg (cAt f n) (plF (cAt f n) M (o + 1) k42) 3 0))) = (nuF (cAt f n) M (o + 1) u (k42 + 1)) from by first | exact upd_upd _ _ _ _ | rfl | (rw [cNum_val hD0]; rfl))) ?_
                refine G.cast (V' := (ww K x z t h π f (nuF (cAt f n) M (o + 1) u (k42 + 1)) (upd (upd g 6 (cAt f n o)) 7 (nI (plE (cAt f n) M (o + 1) (k42 + 1)))) V)) (congrArg (fun q9 => ww K x z t h π f (nuF (cAt f n) M (o + 1) u (k42 + 1)) q9 V) (show (upd (upd (upd g 6 (cAt f n o)) 7 (nI (plF (cAt f n) M (o + 1) k42))) 7 (nI (plF (cAt f n) M (o + 1) k42 + nDg (cAt f n) (plF (cAt f n) M (o + 1) k42) 3 0))) = (upd (upd g 6 (cAt f n o)) 7 (nI (plE (cAt f n) M (o + 1) (k42 + 1)))) from by first | exact upd_upd _ _ _ _ | rfl | (rw [cNum_val hD0]; rfl))) ?_
                refine G.castL (lv' := [(3, .int (nI M)), (0, .ref (x + 192)), (1, .ref (x + 189)), (2, .int (nI o)), (4, .int (nI (k42 + 1)))]) [2, 3, 4, 5, 0] rfl ?_
                exact ih42 (k42 + 1) (by omega) (by omega) (by first | exact hA2 | exact hB2 | exact hU2 | exact Or.inr hD0) (by first | exact hA2 | exact hB2 | exact hU2 | exact Or.inr hD0) (by first | exact hA2 | exact hB2 | exact hU2 | exact Or.inr hD0) (by first | exact hA2 | exact hB2 | exact hU2 | exact Or.inr hD0)
              · skip
                have hD0 := cNum_neg cq84
                have hbad : rdBad (cAt f n) M (o + 1) k42 = true := bad_0 hD0
                obtain ⟨a1, a2, a3⟩ := cr_bad h0 eM2 (by omega) hbad hA2 hB2 hU2 (crU_0 (by omega) hD0)
                refine G.iconst (pc := 87) cx dX4_readFrom_87 (v := 0) (by decide) ?_
                refine G.zret (pc := 88) cx rfl dX4_readFrom_88 rfl ?_ ?_ rfl
                · refine congrArg (fun x => some (Value.int x)) ?_
                  (try clear L42_1); (try clear ih42); (try clear hin9); (try clear cx); exact b2_f (fun q9 => q9 a1)
                · show _ = _
                  (try clear L42_1); (try clear ih42); (try clear hin9); (try clear cx); first | (rw [a2, a3]; done) | (rw [a2, a3, upd_upd]; done)
            · skip
              refine G.aload_n (pc := 63) cx dX4_readFrom_63 rfl 1 rfl ?_
              refine G.aload_n (pc := 64) cx dX4_readFrom_64 rfl 2 rfl ?_
              refine G.bipush (pc := 65) cx dX4_readFrom_65 (v := 44) (by decide) ?_
              refine G.callV0 (pc := 67) (rest := []) (st1 := [.int (b2 (cAt f n (plE (cAt f n) M (o + 1) k42) = 44))]) cx (c_X4_readSign l K sz x z t h π f (nuF (cAt f n) M (o + 1) u k42) (upd (upd g 6 (cAt f n o)) 7 (nI (plE (cAt f n) M (o + 1) k42))) V 44 n (plE (cAt f n) M (o + 1) k42) (by first | assumption | exact hL) (by omega) (by first | assumption | exact upd_s _ _ _) (by omega)) ok_X4_readSign dX4_readFrom_67 wm_ml_X4_31 rfl ww_o rfl rfl (Nat.le_of_ble_eq_true rfl) ⟨Nat.le_of_ble_eq_true rfl, Nat.le_of_ble_eq_true rfl⟩ rfl ?_
              refine G.if_neB (pc := 70) cx dX4_readFrom_70 (tgt := 75) (by decide) (fun cq70 => ?_) (fun cq70 => ?_)
              · skip
                have hDD := hD.resolve_left (by omega)
                have hp1 := hple k42
                have hgood : ¬ rdBad (cAt f n) M (o + 1) (k42 - 1) = true := good_c hDD (by rw [← plE_p (by omega)]; exact cq70)
                obtain ⟨hA2, hB2, hU2⟩ := cr_next (by omega) (by omega) hDD hgood hA hB hU
                refine G.cast (V' := (ww K x z t h π f (nuF (cAt f n) M (o + 1) u k42) (upd (upd g 6 (cAt f n o)) 7 (nI (plF (cAt f n) M (o + 1) k42))) V)) (congrArg (fun q9 => ww K x z t h π f (nuF (cAt f n) M (o + 1) u k42) q9 V) (show _ = _ from by rw [if_pos cq70, upd_upd, plE_c (by omega) (by omega)])) ?_
                refine G.aload_n (pc := 75) cx dX4_readFrom_75 rfl 1 rfl ?_
                refine G.aload_n (pc := 76) cx dX4_readFrom_76 rfl 2 rfl ?_
                refine G.callV0 (pc := 77) (rest := []) (st1 := [.int (cNumV (cAt f n) (plF (cAt f n) M (o + 1) k42) (nDg (cAt f n) (plF (cAt f n) M (o + 1) k42) 3 0))]) cx (c_X4_readNumber l K sz x z t h π f (nuF (cAt f n) M (o + 1) u k42) (upd (upd g 6 (cAt f n o)) 7 (nI (plF (cAt f n) M (o + 1) k42))) V n (plF (cAt f n) M (o + 1) k42) (by first | assumption | exact hL) (by omega) (by first | assumption | exact upd_s _ _ _) (by omega)) ok_X4_readNumber dX4_readFrom_77 wm_ml_X4_35 rfl ww_o rfl rfl (Nat.le_of_ble_eq_true rfl) ⟨Nat.le_of_ble_eq_true rfl, Nat.le_of_ble_eq_true rfl⟩ rfl ?_
                refine G.istore (pc := 80) cx dX4_readFrom_80 (by decide) rfl ?_
                refine G.iload (pc := 82) cx dX4_readFrom_82 0 rfl ?_
                refine G.if_ge (pc := 84) cx dX4_readFrom_84 (tgt := 89) (by decide) (fun cq84 => ?_) (fun cq84 => ?_)
                · skip
                  have hD0 := cNum_pos cq84
                  refine G.aload_n (pc := 89) cx dX4_readFrom_89 rfl 2 rfl ?_
                  refine G.getV (pc := 90) cx dX4_readFrom_90 (T := TX4) 0 wm_fl_X4_9 inlX4 rfl (by decide) ww_o rfl ?_
                  refine G.iload (pc := 93) cx dX4_readFrom_93 5 rfl ?_
                  refine G.iload (pc := 95) cx dX4_readFrom_95 0 rfl ?_
                  refine G.iastC (pc := 97) cx dX4_readFrom_97 ww_nu (j := k42) rfl (by omega) (by decide) wwNu ?_
                  refine G.iinc (pc := 98) cx dX4_readFrom_98 (v := nI (k42 + 1)) (k := 5) rfl (nI_add k42 1) (by decide) rfl ?_
                  refine G.goto (pc := 101) cx dX4_readFrom_101 (tgt := 42) (by decide) ?_
                  refine G.cast (V' := (ww K x z t h π f (nuF (cAt f n) M (o + 1) u (k42 + 1)) (upd (upd (upd g 6 (cAt f n o)) 7 (nI (plF (cAt f n) M (o + 1) k42))) 7 (nI (plF (cAt f n) M (o + 1) k42 + nDg (cAt f n) (plF (cAt f n) M (o + 1) k42) 3 0))) V)) (congrArg (fun q9 => ww K x z t h π f q9 (upd (upd (upd g 6 (cAt f n o)) 7 (nI (plF (cAt f n) M (o + 1) k42))) 7 (nI (plF (cAt f n) M (o + 1) k42 + nDg (cAt f n) (plF (cAt f n) M (o + 1) k42) 3 0))) V) (show (upd (nuF (cAt f n) M (o + 1) u k42) k42 (cNumV (cAt f n) (plF (cAt f n) M (o + 1) k42) (nDg (cAt f n) (plF (cAt f n) M (o + 1) k42) 3 0))) = (nuF (cAt f n) M (o + 1) u (k42 + 1)) from by first | exact upd_upd _ _ _ _ | rfl | (rw [cNum_val hD0]; rfl))) ?_
                  refine G.cast (V' := (ww K x z t h π f (nuF (cAt f n) M (o + 1) u (k42 + 1)) (upd (upd g 6 (cAt f n o)) 7 (nI (plE (cAt f n) M (o + 1) (k42 + 1)))) V)) (congrArg (fun q9 => ww K x z t h π f (nuF (cAt f n) M (o + 1) u (k42 + 1)) q9 V) (show (upd (upd (upd g 6 (cAt f n o)) 7 (nI (plF (cAt f n) M (o + 1) k42))) 7 (nI (plF (cAt f n) M (o + 1) k42 + nDg (cAt f n) (plF (cAt f n) M (o + 1) k42) 3 0))) = (upd (upd g 6 (cAt f n o)) 7 (nI (plE (cAt f n) M (o + 1) (k42 + 1)))) from by first | exact upd_upd _ _ _ _ | rfl | (rw [cNum_val hD0]; rfl))) ?_
                  refine G.castL (lv' := [(3, .int (nI M)), (0, .ref (x + 192)), (1, .ref (x + 189)), (2, .int (nI o)), (4, .int (nI (k42 + 1)))]) [2, 3, 4, 5, 0] rfl ?_
                  exact ih42 (k42 + 1) (by omega) (by omega) (by first | exact hA2 | exact hB2 | exact hU2 | exact Or.inr hD0) (by first | exact hA2 | exact hB2 | exact hU2 | exact Or.inr hD0) (by first | exact hA2 | exact hB2 | exact hU2 | exact Or.inr hD0) (by first | exact hA2 | exact hB2 | exact hU2 | exact Or.inr hD0)
                · skip
                  have hD0 := cNum_neg cq84
                  have hbad : rdBad (cAt f n) M (o + 1) k42 = true := bad_0 hD0
                  obtain ⟨a1, a2, a3⟩ := cr_bad h0 eM2 (by omega) hbad hA2 hB2 hU2 (crU_0 (by omega) hD0)
                  refine G.iconst (pc := 87) cx dX4_readFrom_87 (v := 0) (by decide) ?_
                  refine G.zret (pc := 88) cx rfl dX4_readFrom_88 rfl ?_ ?_ rfl
                  · refine congrArg (fun x => some (Value.int x)) ?_
                    (try clear L42_1); (try clear ih42); (try clear hin9); (try clear cx); exact b2_f (fun q9 => q9 a1)
                  · show _ = _
                    (try clear L42_1); (try clear ih42); (try clear hin9); (try clear cx); first | (rw [a2, a3]; done) | (rw [a2, a3, upd_upd]; done)
              · skip
                have hDD := hD.resolve_left (by omega)
                have hbad : rdBad (cAt f n) M (o + 1) (k42 - 1) = true := bad_c (by omega) (by rw [← plE_p (by omega)]; exact cq70)
                have hk1 : k42 - 1 + 1 = k42 := by omega
                have hN := crU_b (nu := u) (show k42 - 1 < M by omega) hDD hbad
                rw [hk1] at hN
                obtain ⟨a1, a2, a3⟩ := cr_bad h0 eM2 (by omega) hbad hA hB hU hN
                rw [← plE_p (by omega)] at a2
                refine G.cast (V' := (ww K x z t h π f (nuF (cAt f n) M (o + 1) u k42) (upd (upd g 6 (cAt f n o)) 7 (nI (plE (cAt f n) M (o + 1) k42))) V)) (congrArg (fun q9 => ww K x z t h π f (nuF (cAt f n) M (o + 1) u k42) q9 V) (show _ = _ from by rw [if_neg cq70])) ?_
                refine G.iconst (pc := 73) cx dX4_readFrom_73 (v := 0) (by decide) ?_
                refine G.zret (pc := 74) cx rfl dX4_readFrom_74 rfl ?_ ?_ rfl
                · refine congrArg (fun x => some (Value.int x)) ?_
                  (try clear L42_1); (try clear ih42); (try clear hin9); (try clear cx); exact b2_f (fun q9 => q9 a1)
                · show _ = _
                  (try clear L42_1); (try clear ih42); (try clear hin9); (try clear cx); rw [a2, a3]
    refine G.cast (V' := (ww K x z t h π f (nuF (cAt f n) M (o + 1) u 0) (upd (upd (upd g 6 (cAt f n o)) 7 (nI o)) 7 (nI (o + 1))) V)) (congrArg (fun q9 => ww K x z t h π f q9 (upd (upd (upd g 6 (cAt f n o)) 7 (nI o)) 7 (nI (o + 1))) V) (show u = (nuF (cAt f n) M (o + 1) u 0) from by first | rfl | exact upd_upd _ _ _ _)) ?_
    refine G.cast (V' := (ww K x z t h π f (nuF (cAt f n) M (o + 1) u 0) (upd (upd g 6 (cAt f n o)) 7 (nI (plE (cAt f n) M (o + 1) 0))) V)) (congrArg (fun q9 => ww K x z t h π f (nuF (cAt f n) M (o + 1) u 0) q9 V) (show (upd (upd (upd g 6 (cAt f n o)) 7 (nI o)) 7 (nI (o + 1))) = (upd (upd g 6 (cAt f n o)) 7 (nI (plE (cAt f n) M (o + 1) 0))) from by first | rfl | exact upd_upd _ _ _ _)) ?_
    refine G.castL (lv' := [(3, .int (nI M)), (0, .ref (x + 192)), (1, .ref (x + 189)), (2, .int (nI o)), (4, .int 0)]) [1, 2, 3, 4, 0] rfl ?_
    refine G.lv0 (lv2 := [(3, .int (nI M)), (0, .ref (x + 192)), (1, .ref (x + 189)), (2, .int (nI o)), (4, .int (nI 0))]) (congrArg (fun q9 => ([(3, .int (nI M)), (0, .ref (x + 192)), (1, .ref (x + 189)), (2, .int (nI o)), (4, .int q9)] : List (Nat × Value))) (show (0 : Int32) = nI 0 from by first | rfl | exact upd_upd _ _ _ _)) ?_
    exact L42_1 (M + 1) 0 (by omega) (by omega) (by first | rfl | exact Or.inl rfl) (by first | rfl | exact Or.inl rfl) (by first | rfl | exact Or.inl rfl) (by first | rfl | exact Or.inl rfl)
  · skip
    have h0 : tNum ((cAt f n) o) < 0 := by rw [cq24]; decide
    obtain ⟨a1, a2, a3⟩ := cr_no (nu := u) h0
    refine G.iconst (pc := 27) cx dX4_readFrom_27 (v := 0) (by decide) ?_
    refine G.zret (pc := 28) cx rfl dX4_readFrom_28 rfl ?_ ?_ rfl
    · refine congrArg (fun x => some (Value.int x)) ?_
      (try clear L42_1); (try clear ih42); (try clear hin9); (try clear cx); exact b2_f (fun q9 => q9 a1)
    · show _ = _
      (try clear L42_1); (try clear ih42); (try clear hin9); (try clear cx); first | (rw [a2, a3]; done) | (rw [a2, a3, upd_upd]; done)
