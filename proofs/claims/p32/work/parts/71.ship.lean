set_option maxHeartbeats 4000000 in
set_option maxRecDepth 100000 in
theorem c_L_ship (l : Launch) (K : KT) (sz : Nat) (x : Nat) (s : Ot) (y : Zt) (V : VW) (u0 : Int32) (v0 : Int32) (B : Nat) (N : Nat) (S : Nat) (E : Nat) (D : Nat) (hI : INV B N y) (hS : SOK s) (hN : y 194 = nI N) (h16 : N ≤ 16) (hSe : y 191 = nI S) (hS1 : S ≤ 1) (hE : y 206 = nI E) (hE8 : E ≤ 8) (hD : y 192 = nI D) (hD9 : D ≤ 999) (hB : B < 1000000) : Cp l K yL_ship cL_ship 16 (some .boolean) 7 [.ref x, .int u0, .int v0, .ref (x + 194), .ref (x + 195), .ref (x + 196), .ref (x + 197), .ref (x + 198), .ref (x + 199)] (xwL K x y s y V) sz (PoL K x V B) := by
  refine Cp.ofG (by decide) (Nat.le_of_ble_eq_true rfl) ?_
  intro p9 e9 s9 m9 a9 b9 t9 c9 cx hin9
  refine G.lv0 (lv2 := [(0, .ref x), (1, .int u0), (2, .int v0), (3, .ref (x + 194)), (4, .ref (x + 195)), (5, .ref (x + 196)), (6, .ref (x + 197)), (7, .ref (x + 198)), (8, .ref (x + 199))]) rfl ?_
  refine G.iload_n (pc := 0) cx dL_ship_0 rfl 1 rfl ?_
  refine G.bipush (pc := 1) cx dL_ship_1 (v := 12) (by decide) ?_
  obtain ⟨r3, hr3, hl3⟩ := k_low l K sz (xwL K x y s y V) u0 (n := 12) (by omega) (by omega)
  refine G.callSg (pc := 3) (rest := []) (st1 := [.int (nI r3)]) cx hl3 ok_L_low dL_ship_3 wm_ml_L_27 rfl rfl (Nat.le_of_ble_eq_true rfl) ⟨Nat.le_of_ble_eq_true rfl, Nat.le_of_ble_eq_true rfl⟩ ⟨Nat.le_of_ble_eq_true rfl, Nat.le_of_ble_eq_true rfl⟩ rfl ?_
  refine G.istore (pc := 6) cx dL_ship_6 (by decide) rfl ?_
  refine G.ldc (pc := 8) cx dL_ship_8 (v := (-1000002)) wm_ct_L_33 ?_
  refine G.istore (pc := 10) cx dL_ship_10 (by decide) rfl ?_
  refine G.ldc (pc := 12) cx dL_ship_12 (v := (-1000001)) wm_ct_L_34 ?_
  refine G.istore (pc := 14) cx dL_ship_14 (by decide) rfl ?_
  refine G.iload (pc := 16) cx dL_ship_16 2 rfl ?_
  refine G.iconst (pc := 18) cx dL_ship_18 (v := 3) (by decide) ?_
  refine G.icmp_geN (pc := 19) cx r3 3 (by omega) (by omega) dL_ship_19 (tgt := 252) (by decide) (fun cq19 => ?_) (fun cq19 => ?_)
  · skip
    have nq19 := Nat.not_lt.mpr cq19
    refine G.iload (pc := 252) cx dL_ship_252 2 rfl ?_
    refine G.bipush (pc := 254) cx dL_ship_254 (v := 6) (by decide) ?_
    refine G.icmp_geN (pc := 256) cx r3 6 (by omega) (by omega) dL_ship_256 (tgt := 411) (by decide) (fun cq256 => ?_) (fun cq256 => ?_)
    · skip
      have nq256 := Nat.not_lt.mpr cq256
      refine G.iload (pc := 411) cx dL_ship_411 2 rfl ?_
      refine G.bipush (pc := 413) cx dL_ship_413 (v := 6) (by decide) ?_
      refine G.icmp_neN (pc := 415) cx r3 6 (by omega) (by omega) dL_ship_415 (tgt := 633) (by decide) (fun cq415 => ?_) (fun cq415 => ?_)
      · skip
        have J647_1 : G K p9 l e9 (rmL 7 0 0) s9 m9 a9 b9 t9 c9 (MQ b9 (QCp K (PoL K x V B) sz) a9 s9 0 0 (kA K)) 16 (xwL K x y s y V) sz 0 0 647 [(0, .ref x), (1, .int u0), (2, .int v0), (3, .ref (x + 194)), (4, .ref (x + 195)), (5, .ref (x + 196)), (6, .ref (x + 197)), (7, .ref (x + 198)), (8, .ref (x + 199)), (9, .int (nI r3)), (10, .int (-1000002)), (11, .int (-1000001))] [] := by
          refine G.aload_n (pc := 647) cx dL_ship_647 rfl 3 rfl ?_
          refine G.iconst (pc := 648) cx dL_ship_648 (v := 1) (by decide) ?_
          refine G.ialdV (pc := 649) cx dL_ship_649 xl_g (j := 1) rfl (by omega) (by decide) ((xr_g (n := 191) (by omega) (by omega)).trans (hSe)) ?_
          refine G.iconst (pc := 650) cx dL_ship_650 (v := 1) (by decide) ?_
          refine G.icmp_neN (pc := 651) cx S 1 (by omega) (by omega) dL_ship_651 (tgt := 690) (by decide) (fun cq651 => ?_) (fun cq651 => ?_)
          · skip
            refine G.iconst (pc := 690) cx dL_ship_690 (v := 0) (by decide) ?_
            refine G.istore (pc := 691) cx dL_ship_691 (by decide) rfl ?_
            refine G.iconst (pc := 693) cx dL_ship_693 (v := 0) (by decide) ?_
            refine G.istore (pc := 694) cx dL_ship_694 (by decide) rfl ?_
            have L696_2 : ∀ (fz k696 : Nat), N - k696 < fz → k696 ≤ N → G K p9 l e9 (rmL 7 0 0) s9 m9 a9 b9 t9 c9 (MQ b9 (QCp K (PoL K x V B) sz) a9 s9 0 0 (kA K)) 16 (xwL K x y s (zSailTo y k696) V) sz 0 0 696 [(0, .ref x), (1, .int u0), (2, .int v0), (3, .ref (x + 194)), (4, .ref (x + 195)), (5, .ref (x + 196)), (6, .ref (x + 197)), (7, .ref (x + 198)), (8, .ref (x + 199)), (9, .int (nI r3)), (10, .int (-1000002)), (11, .int (-1000001)), (12, .int (nI (zLeft y k696))), (13, .int (nI k696))] [] := by
              intro fz
              induction fz with
              | zero => intro k696 h9; omega
              | succ fz ih696 =>
                intro k696 h9696 h8696
                refine G.iload (pc := 696) cx dL_ship_696 13 rfl ?_
                refine G.aload_n (pc := 698) cx dL_ship_698 rfl 3 rfl ?_
                refine G.iconst (pc := 699) cx dL_ship_699 (v := 4) (by decide) ?_
                refine G.ialdV (pc := 700) cx dL_ship_700 xl_g (j := 4) rfl (by omega) (by decide) ((xr_g (n := 194) (by omega) (by omega)).trans (((zSailTo_o _ (by omega) _ (fun q hq => by omega)).trans hN))) ?_
                refine G.icmp_geN (pc := 701) cx k696 N (by omega) (by omega) dL_ship_701 (tgt := 767) (by decide) (fun cq701 => ?_) (fun cq701 => ?_)
                · skip
                  have nq701 := Nat.not_lt.mpr cq701
                  have ex696 : k696 = N := by omega
                  try rw [ex696]
                  refine G.aload_n (pc := 767) cx dL_ship_767 rfl 3 rfl ?_
                  refine G.iconst (pc := 768) cx dL_ship_768 (v := 1) (by decide) ?_
                  refine G.iconst (pc := 769) cx dL_ship_769 (v := 1) (by decide) ?_
                  refine G.iastC (pc := 770) cx dL_ship_770 xl_g (j := 1) rfl (by omega) (by decide) (xs_g (n := 191) (by omega) (by omega)) ?_
                  refine G.aload_n (pc := 771) cx dL_ship_771 rfl 0 rfl ?_
                  obtain ⟨s772, hs772, hc772⟩ := k_no (c := -1000002) (k_port (l := l) (K := K) (sz := sz) (x := x) (y := (upd (zSailTo y N) 191 1)) (V := V) hI hS hB ) (by exact no_port (mt (sea_nat hSe hS1).mp cq651)) (by first | decide | (split <;> decide))
                  refine G.callVg (pc := 772) (rest := []) (st1 := [.int (-1000002)]) cx hc772 ok_X9_port dL_ship_772 wm_ml_L_88 rfl xw_o rfl (Nat.le_of_ble_eq_true rfl) ⟨Nat.le_of_ble_eq_true rfl, Nat.le_of_ble_eq_true rfl⟩ ⟨Nat.le_of_ble_eq_true rfl, Nat.le_of_ble_eq_true rfl⟩ rfl ?_
                  refine G.iload (pc := 775) cx dL_ship_775 10 rfl ?_
                  refine G.icmp_ne (pc := 777) cx dL_ship_777 (tgt := 793) (by decide) (fun h9 => absurd rfl h9) (fun _ => ?_)
                  refine G.aload_n (pc := 780) cx dL_ship_780 rfl 0 rfl ?_
                  obtain ⟨s781, hs781, hc781, M781, hi781⟩ := k_yes (v := nI (zLeft y N)) (D2 := upd (zSailTo y N) 191 1) (k_sail (l := l) (K := K) (sz := sz) (x := x) (y := (upd (zSailTo y N) 191 1)) (V := V) hI hs772 ) (by exact yes_sail (mt (sea_nat hSe hS1).mp cq651)) (by rfl) (by rfl)
                  refine G.callVg (pc := 781) (rest := []) (st1 := [.int (nI (zLeft y N))]) cx hc781 ok_X9_sail dL_ship_781 wm_ml_L_84 rfl xw_o rfl (Nat.le_of_ble_eq_true rfl) ⟨Nat.le_of_ble_eq_true rfl, Nat.le_of_ble_eq_true rfl⟩ ⟨Nat.le_of_ble_eq_true rfl, Nat.le_of_ble_eq_true rfl⟩ rfl ?_
                  refine G.iload (pc := 784) cx dL_ship_784 12 rfl ?_
                  refine G.icmp_ne (pc := 786) cx dL_ship_786 (tgt := 793) (by decide) (fun h9 => absurd rfl h9) (fun _ => ?_)
                  refine G.iconst (pc := 789) cx dL_ship_789 (v := 1) (by decide) ?_
                  refine G.goto (pc := 790) cx dL_ship_790 (tgt := 794) (by decide) ?_
                  refine G.zretP (pc := 794) cx rfl dL_ship_794 rfl ?_
                  exact ⟨rfl, _, _, _, rfl, hs781, hi781⟩
                · skip
                  have nq701 := Nat.not_le.mpr cq701
                  refine G.aload (pc := 704) cx dL_ship_704 4 rfl ?_
                  refine G.iconst (pc := 706) cx dL_ship_706 (v := 3) (by decide) ?_
                  refine G.iload (pc := 707) cx dL_ship_707 13 rfl ?_
                  refine G.imulN (pc := 709) cx dL_ship_709 3 k696 ?_
                  refine G.iconst (pc := 710) cx dL_ship_710 (v := 2) (by decide) ?_
                  refine G.iaddN (pc := 711) cx dL_ship_711 (3 * k696) 2 ?_
                  refine G.ialdV (pc := 712) cx dL_ship_712 xl_a (j := ((3 * k696) + 2)) rfl (by omega) (by decide) (xr_a (n := 10 * k696 + 2) (by omega) (by omega)) ?_
                  refine G.iconst (pc := 713) cx dL_ship_713 (v := 1) (by decide) ?_
                  refine G.icmp_eq (pc := 714) cx dL_ship_714 (tgt := 720) (by decide) (fun cq714 => ?_) (fun cq714 => ?_)
                  · skip
                    refine G.aload_n (pc := 720) cx dL_ship_720 rfl 3 rfl ?_
                    refine G.bipush (pc := 721) cx dL_ship_721 (v := 12) (by decide) ?_
                    refine G.dup2 (pc := 723) cx dL_ship_723 rfl rfl ?_
                    refine G.ialdV (pc := 724) cx dL_ship_724 xl_g (j := 12) rfl (by omega) (by decide) (xr_g (n := 202) (by omega) (by omega)) ?_
                    refine G.aload (pc := 725) cx dL_ship_725 4 rfl ?_
                    refine G.aload (pc := 727) cx dL_ship_727 5 rfl ?_
                    refine G.aload (pc := 729) cx dL_ship_729 6 rfl ?_
                    refine G.iload (pc := 731) cx dL_ship_731 13 rfl ?_
                    refine G.callSg (pc := 733) (rest := [.int ((zSailTo y k696) 202), .int 12, .ref (x + 194)]) (st1 := [.int (zBal (zSailTo y k696) k696), .int ((zSailTo y k696) 202), .int 12, .ref (x + 194)]) cx (c_L_balance l K sz x y s (zSailTo y k696) V k696 (by omega)) ok_L_balance dL_ship_733 wm_ml_L_23 rfl rfl (Nat.le_of_ble_eq_true rfl) ⟨Nat.le_of_ble_eq_true rfl, Nat.le_of_ble_eq_true rfl⟩ ⟨Nat.le_of_ble_eq_true rfl, Nat.le_of_ble_eq_true rfl⟩ rfl ?_
                    refine G.iadd (pc := 736) cx dL_ship_736 ?_
                    refine G.iastC (pc := 737) cx dL_ship_737 xl_g (j := 12) rfl (by omega) (by decide) (xs_g (n := 202) (by omega) (by omega)) ?_
                    refine G.aload (pc := 738) cx dL_ship_738 4 rfl ?_
                    refine G.iconst (pc := 740) cx dL_ship_740 (v := 3) (by decide) ?_
                    refine G.iload (pc := 741) cx dL_ship_741 13 rfl ?_
                    refine G.imulN (pc := 743) cx dL_ship_743 3 k696 ?_
                    refine G.iconst (pc := 744) cx dL_ship_744 (v := 2) (by decide) ?_
                    refine G.iaddN (pc := 745) cx dL_ship_745 (3 * k696) 2 ?_
                    refine G.iconst (pc := 746) cx dL_ship_746 (v := 2) (by decide) ?_
                    refine G.iastC (pc := 747) cx dL_ship_747 xl_a (j := ((3 * k696) + 2)) rfl (by omega) (by decide) (xs_a (n := 10 * k696 + 2) (by omega) (by omega)) ?_
                    refine G.aload (pc := 748) cx dL_ship_748 5 rfl ?_
                    refine G.aload (pc := 750) cx dL_ship_750 6 rfl ?_
                    refine G.iload (pc := 752) cx dL_ship_752 13 rfl ?_
                    refine G.iconst (pc := 754) cx dL_ship_754 (v := 0) (by decide) ?_
                    refine G.callSg (pc := 755) (rest := []) (st1 := []) cx (c_L_clear l K sz x y s (upd (upd (zSailTo y k696) 202 (((zSailTo y k696) 202) + (zBal (zSailTo y k696) k696))) (10 * k696 + 2) 2) V k696 0 (by omega)) ok_L_clear dL_ship_755 wm_ml_L_39 rfl rfl (Nat.le_of_ble_eq_true rfl) ⟨Nat.le_of_ble_eq_true rfl, Nat.le_of_ble_eq_true rfl⟩ ⟨Nat.le_of_ble_eq_true rfl, Nat.le_of_ble_eq_true rfl⟩ rfl ?_
                    refine G.iinc (pc := 758) cx dL_ship_758 (v := nI (zLeft y k696 + 1)) (k := 12) rfl (nI_add (zLeft y k696) 1) (by decide) rfl ?_
                    refine G.iinc (pc := 761) cx dL_ship_761 (v := nI (k696 + 1)) (k := 13) rfl (nI_add k696 1) (by decide) rfl ?_
                    refine G.goto (pc := 764) cx dL_ship_764 (tgt := 696) (by decide) ?_
                    refine G.cast (V' := (xwL K x y s (zSailTo y (k696 + 1)) V)) (congrArg (fun q9 => xwL K x y s q9 V) (show (upd (zClear (upd (upd (zSailTo y k696) 202 (((zSailTo y k696) 202) + (zBal (zSailTo y k696) k696))) (10 * k696 + 2) 2) k696) (10 * k696 + 8) 0) = (zSailTo y (k696 + 1)) from by first | exact sl_1 cq714 | exact sl_0 cq714 | exact ll_1 cq714 | exact ll_0 cq714)) ?_
                    refine G.castL (lv' := [(0, .ref x), (1, .int u0), (2, .int v0), (3, .ref (x + 194)), (4, .ref (x + 195)), (5, .ref (x + 196)), (6, .ref (x + 197)), (7, .ref (x + 198)), (8, .ref (x + 199)), (9, .int (nI r3)), (10, .int (-1000002)), (11, .int (-1000001)), (12, .int (nI (zLeft y k696 + 1))), (13, .int (nI (k696 + 1)))]) [2, 3, 4, 5, 6, 7, 8, 9, 10, 11, 12, 13, 1, 0] rfl ?_
                    refine G.lv0 (lv2 := [(0, .ref x), (1, .int u0), (2, .int v0), (3, .ref (x + 194)), (4, .ref (x + 195)), (5, .ref (x + 196)), (6, .ref (x + 197)), (7, .ref (x + 198)), (8, .ref (x + 199)), (9, .int (nI r3)), (10, .int (-1000002)), (11, .int (-1000001)), (12, .int (nI (zLeft y (k696 + 1)))), (13, .int (nI (k696 + 1)))]) (congrArg (fun q9 => ([(0, .ref x), (1, .int u0), (2, .int v0), (3, .ref (x + 194)), (4, .ref (x + 195)), (5, .ref (x + 196)), (6, .ref (x + 197)), (7, .ref (x + 198)), (8, .ref (x + 199)), (9, .int (nI r3)), (10, .int (-1000002)), (11, .int (-1000001)), (12, .int q9), (13, .int (nI (k696 + 1)))] : List (Nat × Value))) (show (nI (zLeft y k696 + 1) : Int32) = nI (zLeft y (k696 + 1)) from by first | exact sl_1 cq714 | exact sl_0 cq714 | exact ll_1 cq714 | exact ll_0 cq714)) ?_
                    exact ih696 (k696 + 1) (by omega) (by omega)
                  · skip
                    refine G.goto (pc := 717) cx dL_ship_717 (tgt := 761) (by decide) ?_
                    refine G.iinc (pc := 761) cx dL_ship_761 (v := nI (k696 + 1)) (k := 13) rfl (nI_add k696 1) (by decide) rfl ?_
                    refine G.goto (pc := 764) cx dL_ship_764 (tgt := 696) (by decide) ?_
                    refine G.cast (V' := (xwL K x y s (zSailTo y (k696 + 1)) V)) (congrArg (fun q9 => xwL K x y s q9 V) (show (zSailTo y k696) = (zSailTo y (k696 + 1)) from by first | exact sl_1 cq714 | exact sl_0 cq714 | exact ll_1 cq714 | exact ll_0 cq714)) ?_
                    refine G.castL (lv' := [(0, .ref x), (1, .int u0), (2, .int v0), (3, .ref (x + 194)), (4, .ref (x + 195)), (5, .ref (x + 196)), (6, .ref (x + 197)), (7, .ref (x + 198)), (8, .ref (x + 199)), (9, .int (nI r3)), (10, .int (-1000002)), (11, .int (-1000001)), (12, .int (nI (zLeft y k696))), (13, .int (nI (k696 + 1)))]) [1, 2, 3, 4, 5, 6, 7, 8, 9, 10, 11, 12, 13, 0] rfl ?_
                    refine G.lv0 (lv2 := [(0, .ref x), (1, .int u0), (2, .int v0), (3, .ref (x + 194)), (4, .ref (x + 195)), (5, .ref (x + 196)), (6, .ref (x + 197)), (7, .ref (x + 198)), (8, .ref (x + 199)), (9, .int (nI r3)), (10, .int (-1000002)), (11, .int (-1000001)), (12, .int (nI (zLeft y (k696 + 1)))), (13, .int (nI (k696 + 1)))]) (congrArg (fun q9 => ([(0, .ref x), (1, .int u0), (2, .int v0), (3, .ref (x + 194)), (4, .ref (x + 195)), (5, .ref (x + 196)), (6, .ref (x + 197)), (7, .ref (x + 198)), (8, .ref (x + 199)), (9, .int (nI r3)), (10, .int (-1000002)), (11, .int (-1000001)), (12, .int q9), (13, .int (nI (k696 + 1)))] : List (Nat × Value))) (show (nI (zLeft y k696) : Int32) = nI (zLeft y (k696 + 1)) from by first | exact sl_1 cq714 | exact sl_0 cq714 | exact ll_1 cq714 | exact ll_0 cq714)) ?_
                    exact ih696 (k696 + 1) (by omega) (by omega)
            refine G.cast (V' := (xwL K x y s (zSailTo y 0) V)) (congrArg (fun q9 => xwL K x y s q9 V) (show y = (zSailTo y 0) from by rfl)) ?_
            refine G.castL (lv' := [(0, .ref x), (1, .int u0), (2, .int v0), (3, .ref (x + 194)), (4, .ref (x + 195)), (5, .ref (x + 196)), (6, .ref (x + 197)), (7, .ref (x + 198)), (8, .ref (x + 199)), (9, .int (nI r3)), (10, .int (-1000002)), (11, .int (-1000001)), (12, .int 0), (13, .int 0)]) [2, 3, 4, 5, 6, 7, 8, 9, 10, 11, 12, 13, 1, 0] rfl ?_
            refine G.lv0 (lv2 := [(0, .ref x), (1, .int u0), (2, .int v0), (3, .ref (x + 194)), (4, .ref (x + 195)), (5, .ref (x + 196)), (6, .ref (x + 197)), (7, .ref (x + 198)), (8, .ref (x + 199)), (9, .int (nI r3)), (10, .int (-1000002)), (11, .int (-1000001)), (12, .int (nI (zLeft y 0))), (13, .int 0)]) (congrArg (fun q9 => ([(0, .ref x), (1, .int u0), (2, .int v0), (3, .ref (x + 194)), (4, .ref (x + 195)), (5, .ref (x + 196)), (6, .ref (x + 197)), (7, .ref (x + 198)), (8, .ref (x + 199)), (9, .int (nI r3)), (10, .int (-1000002)), (11, .int (-1000001)), (12, .int q9), (13, .int 0)] : List (Nat × Value))) (show (0 : Int32) = nI (zLeft y 0) from by rfl)) ?_
            refine G.lv0 (lv2 := [(0, .ref x), (1, .int u0), (2, .int v0), (3, .ref (x + 194)), (4, .ref (x + 195)), (5, .ref (x + 196)), (6, .ref (x + 197)), (7, .ref (x + 198)), (8, .ref (x + 199)), (9, .int (nI r3)), (10, .int (-1000002)), (11, .int (-1000001)), (12, .int (nI (zLeft y 0))), (13, .int (nI 0))]) (congrArg (fun q9 => ([(0, .ref x), (1, .int u0), (2, .int v0), (3, .ref (x + 194)), (4, .ref (x + 195)), (5, .ref (x + 196)), (6, .ref (x + 197)), (7, .ref (x + 198)), (8, .ref (x + 199)), (9, .int (nI r3)), (10, .int (-1000002)), (11, .int (-1000001)), (12, .int (nI (zLeft y 0))), (13, .int q9)] : List (Nat × Value))) (show (0 : Int32) = nI 0 from by rfl)) ?_
            exact L696_2 (N + 1) 0 (by omega) (by omega)
          · skip
            refine G.aload_n (pc := 654) cx dL_ship_654 rfl 3 rfl ?_
            refine G.iconst (pc := 655) cx dL_ship_655 (v := 1) (by decide) ?_
            refine G.iconst (pc := 656) cx dL_ship_656 (v := 0) (by decide) ?_
            refine G.iastC (pc := 657) cx dL_ship_657 xl_g (j := 1) rfl (by omega) (by decide) (xs_g (n := 191) (by omega) (by omega)) ?_
            refine G.aload_n (pc := 658) cx dL_ship_658 rfl 3 rfl ?_
            refine G.iconst (pc := 659) cx dL_ship_659 (v := 3) (by decide) ?_
            refine G.dup2 (pc := 660) cx dL_ship_660 rfl rfl ?_
            refine G.ialdV (pc := 661) cx dL_ship_661 xl_g (j := 3) rfl (by omega) (by decide) ((xr_g (n := 193) (by omega) (by omega)).trans (upd_n (i := 191) (j := 193) y 0 (by omega))) ?_
            refine G.iconst (pc := 662) cx dL_ship_662 (v := 1) (by decide) ?_
            refine G.iadd (pc := 663) cx dL_ship_663 ?_
            refine G.iastC (pc := 664) cx dL_ship_664 xl_g (j := 3) rfl (by omega) (by decide) (xs_g (n := 193) (by omega) (by omega)) ?_
            refine G.aload_n (pc := 665) cx dL_ship_665 rfl 0 rfl ?_
            obtain ⟨s666, hs666, hc666⟩ := k_no (c := -1000002) (k_sail (l := l) (K := K) (sz := sz) (x := x) (y := (upd (upd y 191 0) 193 ((y 193) + 1))) (V := V) hI hS ) (by exact no_sail ((sea_nat hSe hS1).mpr cq651)) (by first | decide | (split <;> decide))
            refine G.callVg (pc := 666) (rest := []) (st1 := [.int (-1000002)]) cx hc666 ok_X9_sail dL_ship_666 wm_ml_L_84 rfl xw_o rfl (Nat.le_of_ble_eq_true rfl) ⟨Nat.le_of_ble_eq_true rfl, Nat.le_of_ble_eq_true rfl⟩ ⟨Nat.le_of_ble_eq_true rfl, Nat.le_of_ble_eq_true rfl⟩ rfl ?_
            refine G.iload (pc := 669) cx dL_ship_669 10 rfl ?_
            refine G.icmp_ne (pc := 671) cx dL_ship_671 (tgt := 688) (by decide) (fun h9 => absurd rfl h9) (fun _ => ?_)
            refine G.aload_n (pc := 674) cx dL_ship_674 rfl 0 rfl ?_
            obtain ⟨s675, hs675, hc675, M675, hi675⟩ := k_yes (v := (y 193) + 1) (D2 := upd (upd y 191 0) 193 ((y 193) + 1)) (k_port (l := l) (K := K) (sz := sz) (x := x) (y := (upd (upd y 191 0) 193 ((y 193) + 1))) (V := V) hI hs666 hB ) (by exact yes_port ((sea_nat hSe hS1).mpr cq651)) (by rfl) (by rfl)
            refine G.callVg (pc := 675) (rest := []) (st1 := [.int ((y 193) + 1)]) cx hc675 ok_X9_port dL_ship_675 wm_ml_L_88 rfl xw_o rfl (Nat.le_of_ble_eq_true rfl) ⟨Nat.le_of_ble_eq_true rfl, Nat.le_of_ble_eq_true rfl⟩ ⟨Nat.le_of_ble_eq_true rfl, Nat.le_of_ble_eq_true rfl⟩ rfl ?_
            refine G.aload_n (pc := 678) cx dL_ship_678 rfl 3 rfl ?_
            refine G.iconst (pc := 679) cx dL_ship_679 (v := 3) (by decide) ?_
            refine G.ialdV (pc := 680) cx dL_ship_680 xl_g (j := 3) rfl (by omega) (by decide) ((xr_g (n := 193) (by omega) (by omega)).trans (upd_s (upd y 191 0) 193 ((y 193) + 1))) ?_
            refine G.icmp_ne (pc := 681) cx dL_ship_681 (tgt := 688) (by decide) (fun h9 => absurd rfl h9) (fun _ => ?_)
            refine G.iconst (pc := 684) cx dL_ship_684 (v := 1) (by decide) ?_
            refine G.goto (pc := 685) cx dL_ship_685 (tgt := 689) (by decide) ?_
            refine G.zretP (pc := 689) cx rfl dL_ship_689 rfl ?_
            exact ⟨rfl, _, _, _, rfl, hs675, hi675⟩
        refine G.iload (pc := 633) cx dL_ship_633 2 rfl ?_
        refine G.bipush (pc := 635) cx dL_ship_635 (v := 7) (by decide) ?_
        refine G.icmp_eqN (pc := 637) cx r3 7 (by omega) (by omega) dL_ship_637 (tgt := 647) (by decide) (fun cq637 => ?_) (fun cq637 => ?_)
        · skip
          refine G.castL (lv' := [(0, .ref x), (1, .int u0), (2, .int v0), (3, .ref (x + 194)), (4, .ref (x + 195)), (5, .ref (x + 196)), (6, .ref (x + 197)), (7, .ref (x + 198)), (8, .ref (x + 199)), (9, .int (nI r3)), (10, .int (-1000002)), (11, .int (-1000001))]) [3, 4, 5, 6, 7, 8, 9, 10, 11, 2, 1, 0] rfl ?_
          exact J647_1
        · skip
          refine G.iload (pc := 640) cx dL_ship_640 2 rfl ?_
          refine G.bipush (pc := 642) cx dL_ship_642 (v := 8) (by decide) ?_
          refine G.icmp_neN (pc := 644) cx r3 8 (by omega) (by omega) dL_ship_644 (tgt := 795) (by decide) (fun cq644 => ?_) (fun cq644 => ?_)
          · skip
            refine G.iload (pc := 795) cx dL_ship_795 2 rfl ?_
            refine G.bipush (pc := 797) cx dL_ship_797 (v := 11) (by decide) ?_
            refine G.icmp_geN (pc := 799) cx r3 11 (by omega) (by omega) dL_ship_799 (tgt := 958) (by decide) (fun cq799 => ?_) (fun cq799 => ?_)
            · skip
              have nq799 := Nat.not_lt.mpr cq799
              refine G.iload_n (pc := 958) cx dL_ship_958 rfl 5 rfl ?_
              refine G.iconst (pc := 959) cx dL_ship_959 (v := 3) (by decide) ?_
              obtain ⟨r960, hr960, hl960⟩ := k_low l K sz (xwL K x y s y V) v0 (n := 3) (by omega) (by omega)
              refine G.callSg (pc := 960) (rest := []) (st1 := [.int (nI r960)]) cx hl960 ok_L_low dL_ship_960 wm_ml_L_27 rfl rfl (Nat.le_of_ble_eq_true rfl) ⟨Nat.le_of_ble_eq_true rfl, Nat.le_of_ble_eq_true rfl⟩ ⟨Nat.le_of_ble_eq_true rfl, Nat.le_of_ble_eq_true rfl⟩ rfl ?_
              refine G.istore (pc := 963) cx dL_ship_963 (by decide) rfl ?_
              refine G.aload_n (pc := 965) cx dL_ship_965 rfl 7 rfl ?_
              refine G.bipush (pc := 966) cx dL_ship_966 (v := 13) (by decide) ?_
              refine G.iload (pc := 968) cx dL_ship_968 0 rfl ?_
              refine G.iaddN (pc := 970) cx dL_ship_970 13 r960 ?_
              refine G.ialdV (pc := 971) cx dL_ship_971 xl_g (j := (13 + r960)) rfl (by omega) (by decide) (xr_g (n := 203 + r960) (by omega) (by omega)) ?_
              refine G.istore (pc := 972) cx dL_ship_972 (by decide) rfl ?_
              refine G.aload_n (pc := 974) cx dL_ship_974 rfl 8 rfl ?_
              refine G.bipush (pc := 975) cx dL_ship_975 (v := 13) (by decide) ?_
              refine G.iload (pc := 977) cx dL_ship_977 1 rfl ?_
              refine G.iaddN (pc := 979) cx dL_ship_979 13 r960 ?_
              refine G.iload_n (pc := 980) cx dL_ship_980 rfl 7 rfl ?_
              refine G.iconst (pc := 981) cx dL_ship_981 (v := 2) (by decide) ?_
              refine G.ishr (pc := 982) cx dL_ship_982 ?_
              obtain ⟨mx1008, hm1008⟩ : ∃ q : Nat, q = (if r960 = 0 then 501 else if r960 = 1 then 201 else 51) ∧ 0 < q ∧ q ≤ 501 := ⟨_, rfl, by split <;> (try split) <;> omega, by split <;> (try split) <;> omega⟩
              have hma1008 := hm1008.2.1
              have hmb1008 := hm1008.2.2
              have J1008_3 : G K p9 l e9 (rmL 7 0 0) s9 m9 a9 b9 t9 c9 (MQ b9 (QCp K (PoL K x V B) sz) a9 s9 0 0 (kA K)) 16 (xwL K x y s y V) sz 0 0 1008 [(0, .ref x), (1, .int u0), (2, .int v0), (3, .ref (x + 194)), (4, .ref (x + 195)), (5, .ref (x + 196)), (6, .ref (x + 197)), (7, .ref (x + 198)), (8, .ref (x + 199)), (9, .int (nI r3)), (10, .int (-1000002)), (11, .int (-1000001)), (12, .int (nI r960)), (13, .int (y (203 + r960)))] [.int (nI mx1008), .int (v0 >>> (2 &&& 31)), .int (nI (13 + r960)), .ref (x + 194)] := by
                obtain ⟨r1008, hr1008, hl1008⟩ := k_low l K sz (xwL K x y s y V) (v0 >>> (2 &&& 31)) (n := mx1008) (by omega) (by omega)
                refine G.callSg (pc := 1008) (rest := [.int (nI (13 + r960)), .ref (x + 194)]) (st1 := [.int (nI r1008), .int (nI (13 + r960)), .ref (x + 194)]) cx hl1008 ok_L_low dL_ship_1008 wm_ml_L_27 rfl rfl (Nat.le_of_ble_eq_true rfl) ⟨Nat.le_of_ble_eq_true rfl, Nat.le_of_ble_eq_true rfl⟩ ⟨Nat.le_of_ble_eq_true rfl, Nat.le_of_ble_eq_true rfl⟩ rfl ?_
                refine G.iastC (pc := 1011) cx dL_ship_1011 xl_g (j := (13 + r960)) rfl (by omega) (by decide) (xs_g (n := 203 + r960) (by omega) (by omega)) ?_
                refine G.aload_n (pc := 1012) cx dL_ship_1012 rfl 0 rfl ?_
                refine G.iload (pc := 1013) cx dL_ship_1013 12 rfl ?_
                refine G.aload_n (pc := 1015) cx dL_ship_1015 rfl 3 rfl ?_
                refine G.bipush (pc := 1016) cx dL_ship_1016 (v := 13) (by decide) ?_
                refine G.iload (pc := 1018) cx dL_ship_1018 12 rfl ?_
                refine G.iaddN (pc := 1020) cx dL_ship_1020 13 r960 ?_
                refine G.ialdV (pc := 1021) cx dL_ship_1021 xl_g (j := (13 + r960)) rfl (by omega) (by decide) ((xr_g (n := 203 + r960) (by omega) (by omega)).trans (upd_s y (203 + r960) (nI r1008))) ?_
                obtain ⟨s1022, hs1022, hc1022, M1022, hi1022⟩ := k_yes (v := y (203 + r960)) (D2 := upd y (203 + r960) (nI r1008)) (k_set (l := l) (K := K) (sz := sz) (x := x) (y := (upd y (203 + r960) (nI r1008))) (V := V) hI hS (nI r960) (nI r1008)) (by exact yes_set (by omega) (by rw [← hm1008.1]; exact hr1008)) (by rw [nI_clamp (by omega)]) (by unfold zDoSet; rw [nI_clamp (by omega)])
                refine G.callVg (pc := 1022) (rest := []) (st1 := [.int (y (203 + r960))]) cx hc1022 ok_X9_set dL_ship_1022 wm_ml_L_94 rfl xw_o rfl (Nat.le_of_ble_eq_true rfl) ⟨Nat.le_of_ble_eq_true rfl, Nat.le_of_ble_eq_true rfl⟩ ⟨Nat.le_of_ble_eq_true rfl, Nat.le_of_ble_eq_true rfl⟩ rfl ?_
                refine G.iload (pc := 1025) cx dL_ship_1025 13 rfl ?_
                refine G.icmp_ne (pc := 1027) cx dL_ship_1027 (tgt := 1068) (by decide) (fun h9 => absurd rfl h9) (fun _ => ?_)
                refine G.aload_n (pc := 1030) cx dL_ship_1030 rfl 0 rfl ?_
                refine G.iconst (pc := 1031) cx dL_ship_1031 (v := 3) (by decide) ?_
                refine G.iconst (pc := 1032) cx dL_ship_1032 (v := 0) (by decide) ?_
                obtain ⟨s1033, hs1033, hc1033⟩ := k_no (c := -1000001) (k_set (l := l) (K := K) (sz := sz) (x := x) (y := (upd y (203 + r960) (nI r1008))) (V := V) hi1022 hs1022 3 0) (by exact bad_set3) (by first | decide | (split <;> decide))
                refine G.callVg (pc := 1033) (rest := []) (st1 := [.int (-1000001)]) cx hc1033 ok_X9_set dL_ship_1033 wm_ml_L_94 rfl xw_o rfl (Nat.le_of_ble_eq_true rfl) ⟨Nat.le_of_ble_eq_true rfl, Nat.le_of_ble_eq_true rfl⟩ ⟨Nat.le_of_ble_eq_true rfl, Nat.le_of_ble_eq_true rfl⟩ rfl ?_
                refine G.iload (pc := 1036) cx dL_ship_1036 11 rfl ?_
                refine G.icmp_ne (pc := 1038) cx dL_ship_1038 (tgt := 1068) (by decide) (fun h9 => absurd rfl h9) (fun _ => ?_)
                refine G.aload_n (pc := 1041) cx dL_ship_1041 rfl 0 rfl ?_
                refine G.iconst (pc := 1042) cx dL_ship_1042 (v := 2) (by decide) ?_
                refine G.bipush (pc := 1043) cx dL_ship_1043 (v := 51) (by decide) ?_
                obtain ⟨s1045, hs1045, hc1045⟩ := k_no (c := -1000001) (k_set (l := l) (K := K) (sz := sz) (x := x) (y := (upd y (203 + r960) (nI r1008))) (V := V) hi1022 hs1033 2 51) (by exact bad_set51) (by first | decide | (split <;> decide))
                refine G.callVg (pc := 1045) (rest := []) (st1 := [.int (-1000001)]) cx hc1045 ok_X9_set dL_ship_1045 wm_ml_L_94 rfl xw_o rfl (Nat.le_of_ble_eq_true rfl) ⟨Nat.le_of_ble_eq_true rfl, Nat.le_of_ble_eq_true rfl⟩ ⟨Nat.le_of_ble_eq_true rfl, Nat.le_of_ble_eq_true rfl⟩ rfl ?_
                refine G.iload (pc := 1048) cx dL_ship_1048 11 rfl ?_
                refine G.icmp_ne (pc := 1050) cx dL_ship_1050 (tgt := 1068) (by decide) (fun h9 => absurd rfl h9) (fun _ => ?_)
                refine G.aload_n (pc := 1053) cx dL_ship_1053 rfl 0 rfl ?_
                refine G.iconst (pc := 1054) cx dL_ship_1054 (v := 0) (by decide) ?_
                refine G.iconst (pc := 1055) cx dL_ship_1055 (v := (-1)) (by decide) ?_
                obtain ⟨s1056, hs1056, hc1056⟩ := k_no (c := -1000001) (k_set (l := l) (K := K) (sz := sz) (x := x) (y := (upd y (203 + r960) (nI r1008))) (V := V) hi1022 hs1045 0 (-1)) (by exact bad_setm) (by first | decide | (split <;> decide))
                refine G.callVg (pc := 1056) (rest := []) (st1 := [.int (-1000001)]) cx hc1056 ok_X9_set dL_ship_1056 wm_ml_L_94 rfl xw_o rfl (Nat.le_of_ble_eq_true rfl) ⟨Nat.le_of_ble_eq_true rfl, Nat.le_of_ble_eq_true rfl⟩ ⟨Nat.le_of_ble_eq_true rfl, Nat.le_of_ble_eq_true rfl⟩ rfl ?_
                refine G.iload (pc := 1059) cx dL_ship_1059 11 rfl ?_
                refine G.icmp_ne (pc := 1061) cx dL_ship_1061 (tgt := 1068) (by decide) (fun h9 => absurd rfl h9) (fun _ => ?_)
                refine G.iconst (pc := 1064) cx dL_ship_1064 (v := 1) (by decide) ?_
                refine G.goto (pc := 1065) cx dL_ship_1065 (tgt := 1069) (by decide) ?_
                refine G.zretP (pc := 1069) cx rfl dL_ship_1069 rfl ?_
                exact ⟨rfl, _, _, _, rfl, hs1056, hi1022⟩
              refine G.iload (pc := 983) cx dL_ship_983 1 rfl ?_
              refine G.if_neN (pc := 985) cx r960 (by omega) dL_ship_985 (tgt := 994) (by decide) (fun cq985 => ?_) (fun cq985 => ?_)
              · skip
                refine G.iload (pc := 994) cx dL_ship_994 1 rfl ?_
                refine G.iconst (pc := 996) cx dL_ship_996 (v := 1) (by decide) ?_
                refine G.icmp_neN (pc := 997) cx r960 1 (by omega) (by omega) dL_ship_997 (tgt := 1006) (by decide) (fun cq997 => ?_) (fun cq997 => ?_)
                · skip
                  refine G.bipush (pc := 1006) cx dL_ship_1006 (v := 51) (by decide) ?_
                  refine G.castS (st' := [.int (nI mx1008), .int (v0 >>> (2 &&& 31)), .int (nI (13 + r960)), .ref (x + 194)]) (congrArg (fun q9 => ([.int q9, .int (v0 >>> (2 &&& 31)), .int (nI (13 + r960)), .ref (x + 194)] : List Value)) (show (51 : Int32) = nI mx1008 from by first | exact (congrArg nI (hm1008.1.trans (if_pos cq985))).symm | exact (congrArg nI (hm1008.1.trans ((if_neg cq985).trans (if_pos cq997)))).symm | exact (congrArg nI (hm1008.1.trans ((if_neg cq985).trans (if_neg cq997)))).symm)) ?_
                  refine G.castL (lv' := [(0, .ref x), (1, .int u0), (2, .int v0), (3, .ref (x + 194)), (4, .ref (x + 195)), (5, .ref (x + 196)), (6, .ref (x + 197)), (7, .ref (x + 198)), (8, .ref (x + 199)), (9, .int (nI r3)), (10, .int (-1000002)), (11, .int (-1000001)), (12, .int (nI r960)), (13, .int (y (203 + r960)))]) [5, 6, 7, 8, 9, 10, 11, 12, 13, 4, 3, 2, 1, 0] rfl ?_
                  exact J1008_3
                · skip
                  refine G.sipush (pc := 1000) cx dL_ship_1000 (v := 201) (by decide) ?_
                  refine G.goto (pc := 1003) cx dL_ship_1003 (tgt := 1008) (by decide) ?_
                  refine G.castS (st' := [.int (nI mx1008), .int (v0 >>> (2 &&& 31)), .int (nI (13 + r960)), .ref (x + 194)]) (congrArg (fun q9 => ([.int q9, .int (v0 >>> (2 &&& 31)), .int (nI (13 + r960)), .ref (x + 194)] : List Value)) (show (201 : Int32) = nI mx1008 from by first | exact (congrArg nI (hm1008.1.trans (if_pos cq985))).symm | exact (congrArg nI (hm1008.1.trans ((if_neg cq985).trans (if_pos cq997)))).symm | exact (congrArg nI (hm1008.1.trans ((if_neg cq985).trans (if_neg cq997)))).symm)) ?_
                  refine G.castL (lv' := [(0, .ref x), (1, .int u0), (2, .int v0), (3, .ref (x + 194)), (4, .ref (x + 195)), (5, .ref (x + 196)), (6, .ref (x + 197)), (7, .ref (x + 198)), (8, .ref (x + 199)), (9, .int (nI r3)), (10, .int (-1000002)), (11, .int (-1000001)), (12, .int (nI r960)), (13, .int (y (203 + r960)))]) [5, 6, 7, 8, 9, 10, 11, 12, 13, 4, 3, 2, 1, 0] rfl ?_
                  exact J1008_3
              · skip
                refine G.sipush (pc := 988) cx dL_ship_988 (v := 501) (by decide) ?_
                refine G.goto (pc := 991) cx dL_ship_991 (tgt := 1008) (by decide) ?_
                refine G.castS (st' := [.int (nI mx1008), .int (v0 >>> (2 &&& 31)), .int (nI (13 + r960)), .ref (x + 194)]) (congrArg (fun q9 => ([.int q9, .int (v0 >>> (2 &&& 31)), .int (nI (13 + r960)), .ref (x + 194)] : List Value)) (show (501 : Int32) = nI mx1008 from by first | exact (congrArg nI (hm1008.1.trans (if_pos cq985))).symm | exact (congrArg nI (hm1008.1.trans ((if_neg cq985).trans (if_pos cq997)))).symm | exact (congrArg nI (hm1008.1.trans ((if_neg cq985).trans (if_neg cq997)))).symm)) ?_
                refine G.castL (lv' := [(0, .ref x), (1, .int u0), (2, .int v0), (3, .ref (x + 194)), (4, .ref (x + 195)), (5, .ref (x + 196)), (6, .ref (x + 197)), (7, .ref (x + 198)), (8, .ref (x + 199)), (9, .int (nI r3)), (10, .int (-1000002)), (11, .int (-1000001)), (12, .int (nI r960)), (13, .int (y (203 + r960)))]) [5, 6, 7, 8, 9, 10, 11, 12, 13, 4, 3, 2, 1, 0] rfl ?_
                exact J1008_3
            · skip
              have nq799 := Nat.not_le.mpr cq799
              have J815_4 : (S = 1 ∨ D = 0) → G K p9 l e9 (rmL 7 0 0) s9 m9 a9 b9 t9 c9 (MQ b9 (QCp K (PoL K x V B) sz) a9 s9 0 0 (kA K)) 16 (xwL K x y s y V) sz 0 0 815 [(0, .ref x), (1, .int u0), (2, .int v0), (3, .ref (x + 194)), (4, .ref (x + 195)), (5, .ref (x + 196)), (6, .ref (x + 197)), (7, .ref (x + 198)), (8, .ref (x + 199)), (9, .int (nI r3)), (10, .int (-1000002)), (11, .int (-1000001))] [] := by
                intro hor815
                refine G.aload_n (pc := 815) cx dL_ship_815 rfl 0 rfl ?_
                obtain ⟨s816, hs816, hc816⟩ := k_no (c := -1000002) (k_payOff (l := l) (K := K) (sz := sz) (x := x) (y := y) (V := V) hI hS ) (by exact no_po (hor815.imp (sea_nat hSe hS1).mpr (fun q => by rw [hD, q]; rfl))) (by first | decide | (split <;> decide))
                refine G.callVg (pc := 816) (rest := []) (st1 := [.int (-1000002)]) cx hc816 ok_X9_payOff dL_ship_816 wm_ml_L_91 rfl xw_o rfl (Nat.le_of_ble_eq_true rfl) ⟨Nat.le_of_ble_eq_true rfl, Nat.le_of_ble_eq_true rfl⟩ ⟨Nat.le_of_ble_eq_true rfl, Nat.le_of_ble_eq_true rfl⟩ rfl ?_
                refine G.iload (pc := 819) cx dL_ship_819 10 rfl ?_
                refine G.icmp_ne (pc := 821) cx dL_ship_821 (tgt := 828) (by decide) (fun h9 => absurd rfl h9) (fun _ => ?_)
                refine G.iconst (pc := 824) cx dL_ship_824 (v := 1) (by decide) ?_
                refine G.goto (pc := 825) cx dL_ship_825 (tgt := 829) (by decide) ?_
                refine G.zretP (pc := 829) cx rfl dL_ship_829 rfl ?_
                exact ⟨rfl, _, _, _, rfl, hs816, hI.B (Nat.le_succ B)⟩
              refine G.aload_n (pc := 802) cx dL_ship_802 rfl 6 rfl ?_
              refine G.iconst (pc := 803) cx dL_ship_803 (v := 1) (by decide) ?_
              refine G.ialdV (pc := 804) cx dL_ship_804 xl_g (j := 1) rfl (by omega) (by decide) ((xr_g (n := 191) (by omega) (by omega)).trans (hSe)) ?_
              refine G.iconst (pc := 805) cx dL_ship_805 (v := 1) (by decide) ?_
              refine G.icmp_eqN (pc := 806) cx S 1 (by omega) (by omega) dL_ship_806 (tgt := 815) (by decide) (fun cq806 => ?_) (fun cq806 => ?_)
              · skip
                refine G.castL (lv' := [(0, .ref x), (1, .int u0), (2, .int v0), (3, .ref (x + 194)), (4, .ref (x + 195)), (5, .ref (x + 196)), (6, .ref (x + 197)), (7, .ref (x + 198)), (8, .ref (x + 199)), (9, .int (nI r3)), (10, .int (-1000002)), (11, .int (-1000001))]) [3, 4, 5, 6, 7, 8, 9, 10, 11, 2, 1, 0] rfl ?_
                exact J815_4 (by first | exact Or.inl cq806 | exact Or.inr cq812)
              · skip
                refine G.aload_n (pc := 809) cx dL_ship_809 rfl 6 rfl ?_
                refine G.iconst (pc := 810) cx dL_ship_810 (v := 2) (by decide) ?_
                refine G.ialdV (pc := 811) cx dL_ship_811 xl_g (j := 2) rfl (by omega) (by decide) ((xr_g (n := 192) (by omega) (by omega)).trans (hD)) ?_
                refine G.if_neN (pc := 812) cx D (by omega) dL_ship_812 (tgt := 830) (by decide) (fun cq812 => ?_) (fun cq812 => ?_)
                · skip
                  refine G.iconst (pc := 830) cx dL_ship_830 (v := 0) (by decide) ?_
                  refine G.istore (pc := 831) cx dL_ship_831 (by decide) rfl ?_
                  refine G.iconst (pc := 833) cx dL_ship_833 (v := 0) (by decide) ?_
                  refine G.istore (pc := 834) cx dL_ship_834 (by decide) rfl ?_
                  have L836_5 : ∀ (fz k836 : Nat), N - k836 < fz → k836 ≤ N → G K p9 l e9 (rmL 7 0 0) s9 m9 a9 b9 t9 c9 (MQ b9 (QCp K (PoL K x V B) sz) a9 s9 0 0 (kA K)) 16 (xwL K x y s (zPOTo y k836) V) sz 0 0 836 [(11, .int (-1000001)), (10, .int (-1000002)), (9, .int (nI r3)), (0, .ref x), (1, .int u0), (2, .int v0), (3, .ref (x + 194)), (4, .ref (x + 195)), (5, .ref (x + 196)), (6, .ref (x + 197)), (7, .ref (x + 198)), (8, .ref (x + 199)), (12, .int (zPOSum y k836)), (13, .int (nI k836))] [] := by
                    intro fz
                    induction fz with
                    | zero => intro k836 h9; omega
                    | succ fz ih836 =>
                      intro k836 h9836 h8836
                      refine G.iload (pc := 836) cx dL_ship_836 13 rfl ?_
                      refine G.aload_n (pc := 838) cx dL_ship_838 rfl 6 rfl ?_
                      refine G.iconst (pc := 839) cx dL_ship_839 (v := 4) (by decide) ?_
                      refine G.ialdV (pc := 840) cx dL_ship_840 xl_g (j := 4) rfl (by omega) (by decide) ((xr_g (n := 194) (by omega) (by omega)).trans (((zPOTo_o _ (by omega) (by omega) (by omega) (by omega) _ (fun q hq => by omega)).trans hN))) ?_
                      refine G.icmp_geN (pc := 841) cx k836 N (by omega) (by omega) dL_ship_841 (tgt := 932) (by decide) (fun cq841 => ?_) (fun cq841 => ?_)
                      · skip
                        have nq841 := Nat.not_lt.mpr cq841
                        have ex836 : k836 = N := by omega
                        try rw [ex836]
                        refine G.aload_n (pc := 932) cx dL_ship_932 rfl 6 rfl ?_
                        refine G.iconst (pc := 933) cx dL_ship_933 (v := 0) (by decide) ?_
                        refine G.dup2 (pc := 934) cx dL_ship_934 rfl rfl ?_
                        refine G.ialdV (pc := 935) cx dL_ship_935 xl_g (j := 0) rfl (by omega) (by decide) (xr_g (n := 190) (by omega) (by omega)) ?_
                        refine G.iconst (pc := 936) cx dL_ship_936 (v := 1) (by decide) ?_
                        refine G.iadd (pc := 937) cx dL_ship_937 ?_
                        refine G.iastC (pc := 938) cx dL_ship_938 xl_g (j := 0) rfl (by omega) (by decide) (xs_g (n := 190) (by omega) (by omega)) ?_
                        refine G.aload_n (pc := 939) cx dL_ship_939 rfl 6 rfl ?_
                        refine G.iconst (pc := 940) cx dL_ship_940 (v := 2) (by decide) ?_
                        refine G.iconst (pc := 941) cx dL_ship_941 (v := 0) (by decide) ?_
                        refine G.iastC (pc := 942) cx dL_ship_942 xl_g (j := 2) rfl (by omega) (by decide) (xs_g (n := 192) (by omega) (by omega)) ?_
                        refine G.aload_n (pc := 943) cx dL_ship_943 rfl 3 rfl ?_
                        obtain ⟨s944, hs944, hc944, M944, hi944⟩ := k_yes (v := zPOSum y N) (D2 := upd (upd (zPOTo y N) 190 (((zPOTo y N) 190) + 1)) 192 0) (k_payOff (l := l) (K := K) (sz := sz) (x := x) (y := (upd (upd (zPOTo y N) 190 (((zPOTo y N) 190) + 1)) 192 0)) (V := V) hI hS ) (by exact yes_po (fun q => q.elim (fun q => cq806 ((sea_nat hSe hS1).mp q)) (fun q => cq812 (day_z hD hD9 q)))) (by rfl) (by rfl)
                        refine G.callVg (pc := 944) (rest := []) (st1 := [.int (zPOSum y N)]) cx hc944 ok_X9_payOff dL_ship_944 wm_ml_L_91 rfl xw_o rfl (Nat.le_of_ble_eq_true rfl) ⟨Nat.le_of_ble_eq_true rfl, Nat.le_of_ble_eq_true rfl⟩ ⟨Nat.le_of_ble_eq_true rfl, Nat.le_of_ble_eq_true rfl⟩ rfl ?_
                        refine G.iload (pc := 947) cx dL_ship_947 12 rfl ?_
                        refine G.icmp_ne (pc := 949) cx dL_ship_949 (tgt := 956) (by decide) (fun h9 => absurd rfl h9) (fun _ => ?_)
                        refine G.iconst (pc := 952) cx dL_ship_952 (v := 1) (by decide) ?_
                        refine G.goto (pc := 953) cx dL_ship_953 (tgt := 957) (by decide) ?_
                        refine G.zretP (pc := 957) cx rfl dL_ship_957 rfl ?_
                        exact ⟨rfl, _, _, _, rfl, hs944, hi944⟩
                      · skip
                        have nq841 := Nat.not_le.mpr cq841
                        refine G.aload (pc := 844) cx dL_ship_844 7 rfl ?_
                        refine G.iconst (pc := 846) cx dL_ship_846 (v := 3) (by decide) ?_
                        refine G.iload (pc := 847) cx dL_ship_847 13 rfl ?_
                        refine G.imulN (pc := 849) cx dL_ship_849 3 k836 ?_
                        refine G.iconst (pc := 850) cx dL_ship_850 (v := 2) (by decide) ?_
                        refine G.iaddN (pc := 851) cx dL_ship_851 (3 * k836) 2 ?_
                        refine G.ialdV (pc := 852) cx dL_ship_852 xl_a (j := ((3 * k836) + 2)) rfl (by omega) (by decide) (xr_a (n := 10 * k836 + 2) (by omega) (by omega)) ?_
                        refine G.iconst (pc := 853) cx dL_ship_853 (v := 2) (by decide) ?_
                        refine G.icmp_ne (pc := 854) cx dL_ship_854 (tgt := 860) (by decide) (fun cq854 => ?_) (fun cq854 => ?_)
                        · skip
                          refine G.aload (pc := 860) cx dL_ship_860 7 rfl ?_
                          refine G.aload (pc := 862) cx dL_ship_862 8 rfl ?_
                          refine G.aload (pc := 864) cx dL_ship_864 9 rfl ?_
                          refine G.iload (pc := 866) cx dL_ship_866 13 rfl ?_
                          refine G.callSg (pc := 868) (rest := []) (st1 := [.int (zBal (zPOTo y k836) k836)]) cx (c_L_balance l K sz x y s (zPOTo y k836) V k836 (by omega)) ok_L_balance dL_ship_868 wm_ml_L_23 rfl rfl (Nat.le_of_ble_eq_true rfl) ⟨Nat.le_of_ble_eq_true rfl, Nat.le_of_ble_eq_true rfl⟩ ⟨Nat.le_of_ble_eq_true rfl, Nat.le_of_ble_eq_true rfl⟩ rfl ?_
                          refine G.istore (pc := 871) cx dL_ship_871 (by decide) rfl ?_
                          refine G.iload (pc := 873) cx dL_ship_873 0 rfl ?_
                          have J890_6 : G K p9 l e9 (rmL 7 0 0) s9 m9 a9 b9 t9 c9 (MQ b9 (QCp K (PoL K x V B) sz) a9 s9 0 0 (kA K)) 16 (xwL K x y s (zPO1 (zPOTo y k836) k836) V) sz 0 0 890 [(0, .ref x), (1, .int u0), (2, .int v0), (3, .ref (x + 194)), (4, .ref (x + 195)), (5, .ref (x + 196)), (6, .ref (x + 197)), (7, .ref (x + 198)), (8, .ref (x + 199)), (9, .int (nI r3)), (10, .int (-1000002)), (11, .int (-1000001)), (12, .int (zPOSum y k836)), (13, .int (nI k836)), (14, .int (zBal (zPOTo y k836) k836))] [] := by
                            refine G.iload (pc := 890) cx dL_ship_890 12 rfl ?_
                            refine G.iload (pc := 892) cx dL_ship_892 14 rfl ?_
                            have J903_7 : G K p9 l e9 (rmL 7 0 0) s9 m9 a9 b9 t9 c9 (MQ b9 (QCp K (PoL K x V B) sz) a9 s9 0 0 (kA K)) 16 (xwL K x y s (zPO1 (zPOTo y k836) k836) V) sz 0 0 903 [(0, .ref x), (1, .int u0), (2, .int v0), (3, .ref (x + 194)), (4, .ref (x + 195)), (5, .ref (x + 196)), (6, .ref (x + 197)), (7, .ref (x + 198)), (8, .ref (x + 199)), (9, .int (nI r3)), (10, .int (-1000002)), (11, .int (-1000001)), (12, .int (zPOSum y k836)), (13, .int (nI k836)), (14, .int (zBal (zPOTo y k836) k836))] [.int (if 0 < zBal (zPOTo y k836) k836 then zBal (zPOTo y k836) k836 else 0), .int (zPOSum y k836)] := by
                              refine G.iadd (pc := 903) cx dL_ship_903 ?_
                              refine G.istore (pc := 904) cx dL_ship_904 (by decide) rfl ?_
                              refine G.aload (pc := 906) cx dL_ship_906 6 rfl ?_
                              refine G.aload (pc := 908) cx dL_ship_908 7 rfl ?_
                              refine G.iload (pc := 910) cx dL_ship_910 13 rfl ?_
                              refine G.iload (pc := 912) cx dL_ship_912 14 rfl ?_
                              have J923_8 : G K p9 l e9 (rmL 7 0 0) s9 m9 a9 b9 t9 c9 (MQ b9 (QCp K (PoL K x V B) sz) a9 s9 0 0 (kA K)) 16 (xwL K x y s (zPO1 (zPOTo y k836) k836) V) sz 0 0 923 [(0, .ref x), (1, .int u0), (2, .int v0), (3, .ref (x + 194)), (4, .ref (x + 195)), (5, .ref (x + 196)), (6, .ref (x + 197)), (7, .ref (x + 198)), (8, .ref (x + 199)), (9, .int (nI r3)), (10, .int (-1000002)), (11, .int (-1000001)), (12, .int ((zPOSum y k836) + (if 0 < zBal (zPOTo y k836) k836 then zBal (zPOTo y k836) k836 else 0))), (13, .int (nI k836)), (14, .int (zBal (zPOTo y k836) k836))] [.int (if zBal (zPOTo y k836) k836 < 0 then zBal (zPOTo y k836) k836 else 0), .int (nI k836), .ref (x + 197), .ref (x + 196)] := by
                                refine G.callSg (pc := 923) (rest := []) (st1 := []) cx (c_L_clear l K sz x y s (zPO1 (zPOTo y k836) k836) V k836 (if zBal (zPOTo y k836) k836 < 0 then zBal (zPOTo y k836) k836 else 0) (by omega)) ok_L_clear dL_ship_923 wm_ml_L_39 rfl rfl (Nat.le_of_ble_eq_true rfl) ⟨Nat.le_of_ble_eq_true rfl, Nat.le_of_ble_eq_true rfl⟩ ⟨Nat.le_of_ble_eq_true rfl, Nat.le_of_ble_eq_true rfl⟩ rfl ?_
                                refine G.iinc (pc := 926) cx dL_ship_926 (v := nI (k836 + 1)) (k := 13) rfl (nI_add k836 1) (by decide) rfl ?_
                                refine G.goto (pc := 929) cx dL_ship_929 (tgt := 836) (by decide) ?_
                                refine G.cast (V' := (xwL K x y s (zPOTo y (k836 + 1)) V)) (congrArg (fun q9 => xwL K x y s q9 V) (show (upd (zClear (zPO1 (zPOTo y k836) k836) k836) (10 * k836 + 8) (if zBal (zPOTo y k836) k836 < 0 then zBal (zPOTo y k836) k836 else 0)) = (zPOTo y (k836 + 1)) from by first | exact po_1 cq854 | exact po_g cq854 | exact ps_1 cq854 | exact ps_g cq854)) ?_
                                refine G.castL (lv' := [(11, .int (-1000001)), (10, .int (-1000002)), (9, .int (nI r3)), (0, .ref x), (1, .int u0), (2, .int v0), (3, .ref (x + 194)), (4, .ref (x + 195)), (5, .ref (x + 196)), (6, .ref (x + 197)), (7, .ref (x + 198)), (8, .ref (x + 199)), (12, .int ((zPOSum y k836) + (if 0 < zBal (zPOTo y k836) k836 then zBal (zPOTo y k836) k836 else 0))), (13, .int (nI (k836 + 1)))]) [12, 11, 10, 1, 2, 3, 4, 5, 6, 7, 8, 9, 13, 0] rfl ?_
                                refine G.lv0 (lv2 := [(11, .int (-1000001)), (10, .int (-1000002)), (9, .int (nI r3)), (0, .ref x), (1, .int u0), (2, .int v0), (3, .ref (x + 194)), (4, .ref (x + 195)), (5, .ref (x + 196)), (6, .ref (x + 197)), (7, .ref (x + 198)), (8, .ref (x + 199)), (12, .int (zPOSum y (k836 + 1))), (13, .int (nI (k836 + 1)))]) (congrArg (fun q9 => ([(11, .int (-1000001)), (10, .int (-1000002)), (9, .int (nI r3)), (0, .ref x), (1, .int u0), (2, .int v0), (3, .ref (x + 194)), (4, .ref (x + 195)), (5, .ref (x + 196)), (6, .ref (x + 197)), (7, .ref (x + 198)), (8, .ref (x + 199)), (12, .int q9), (13, .int (nI (k836 + 1)))] : List (Nat × Value))) (show ((zPOSum y k836) + (if 0 < zBal (zPOTo y k836) k836 then zBal (zPOTo y k836) k836 else 0) : Int32) = zPOSum y (k836 + 1) from by first | exact po_1 cq854 | exact po_g cq854 | exact ps_1 cq854 | exact ps_g cq854)) ?_
                                exact ih836 (k836 + 1) (by omega) (by omega)
                              refine G.if_ge (pc := 914) cx dL_ship_914 (tgt := 922) (by decide) (fun cq914 => ?_) (fun cq914 => ?_)
                              · skip
                                have nq914 := Int32.not_lt.mpr cq914
                                refine G.iconst (pc := 922) cx dL_ship_922 (v := 0) (by decide) ?_
                                refine G.castS (st' := [.int (if zBal (zPOTo y k836) k836 < 0 then zBal (zPOTo y k836) k836 else 0), .int (nI k836), .ref (x + 197), .ref (x + 196)]) (congrArg (fun q9 => ([.int q9, .int (nI k836), .ref (x + 197), .ref (x + 196)] : List Value)) (show (0 : Int32) = if zBal (zPOTo y k836) k836 < 0 then zBal (zPOTo y k836) k836 else 0 from by first | exact (if_neg nq914).symm | exact (if_pos nq914).symm)) ?_
                                refine G.castL (lv' := [(0, .ref x), (1, .int u0), (2, .int v0), (3, .ref (x + 194)), (4, .ref (x + 195)), (5, .ref (x + 196)), (6, .ref (x + 197)), (7, .ref (x + 198)), (8, .ref (x + 199)), (9, .int (nI r3)), (10, .int (-1000002)), (11, .int (-1000001)), (12, .int ((zPOSum y k836) + (if 0 < zBal (zPOTo y k836) k836 then zBal (zPOTo y k836) k836 else 0))), (13, .int (nI k836)), (14, .int (zBal (zPOTo y k836) k836))]) [1, 2, 3, 4, 5, 6, 7, 8, 9, 10, 11, 12, 0, 13, 14] rfl ?_
                                exact J923_8
                              · skip
                                have nq914 := Int32.not_le.mp cq914
                                refine G.iload (pc := 917) cx dL_ship_917 14 rfl ?_
                                refine G.goto (pc := 919) cx dL_ship_919 (tgt := 923) (by decide) ?_
                                refine G.castS (st' := [.int (if zBal (zPOTo y k836) k836 < 0 then zBal (zPOTo y k836) k836 else 0), .int (nI k836), .ref (x + 197), .ref (x + 196)]) (congrArg (fun q9 => ([.int q9, .int (nI k836), .ref (x + 197), .ref (x + 196)] : List Value)) (show (zBal (zPOTo y k836) k836 : Int32) = if zBal (zPOTo y k836) k836 < 0 then zBal (zPOTo y k836) k836 else 0 from by first | exact (if_neg nq914).symm | exact (if_pos nq914).symm)) ?_
                                refine G.castL (lv' := [(0, .ref x), (1, .int u0), (2, .int v0), (3, .ref (x + 194)), (4, .ref (x + 195)), (5, .ref (x + 196)), (6, .ref (x + 197)), (7, .ref (x + 198)), (8, .ref (x + 199)), (9, .int (nI r3)), (10, .int (-1000002)), (11, .int (-1000001)), (12, .int ((zPOSum y k836) + (if 0 < zBal (zPOTo y k836) k836 then zBal (zPOTo y k836) k836 else 0))), (13, .int (nI k836)), (14, .int (zBal (zPOTo y k836) k836))]) [1, 2, 3, 4, 5, 6, 7, 8, 9, 10, 11, 12, 0, 13, 14] rfl ?_
                                exact J923_8
                            refine G.if_le (pc := 894) cx dL_ship_894 (tgt := 902) (by decide) (fun cq894 => ?_) (fun cq894 => ?_)
                            · skip
                              have nq894 := Int32.not_lt.mpr cq894
                              refine G.iconst (pc := 902) cx dL_ship_902 (v := 0) (by decide) ?_
                              refine G.castS (st' := [.int (if 0 < zBal (zPOTo y k836) k836 then zBal (zPOTo y k836) k836 else 0), .int (zPOSum y k836)]) (congrArg (fun q9 => ([.int q9, .int (zPOSum y k836)] : List Value)) (show (0 : Int32) = if 0 < zBal (zPOTo y k836) k836 then zBal (zPOTo y k836) k836 else 0 from by first | exact (if_neg nq894).symm | exact (if_pos nq894).symm)) ?_
                              exact J903_7
                            · skip
                              have nq894 := Int32.not_le.mp cq894
                              refine G.iload (pc := 897) cx dL_ship_897 14 rfl ?_
                              refine G.goto (pc := 899) cx dL_ship_899 (tgt := 903) (by decide) ?_
                              refine G.castS (st' := [.int (if 0 < zBal (zPOTo y k836) k836 then zBal (zPOTo y k836) k836 else 0), .int (zPOSum y k836)]) (congrArg (fun q9 => ([.int q9, .int (zPOSum y k836)] : List Value)) (show (zBal (zPOTo y k836) k836 : Int32) = if 0 < zBal (zPOTo y k836) k836 then zBal (zPOTo y k836) k836 else 0 from by first | exact (if_neg nq894).symm | exact (if_pos nq894).symm)) ?_
                              exact J903_7
                          refine G.if_le (pc := 875) cx dL_ship_875 (tgt := 890) (by decide) (fun cq875 => ?_) (fun cq875 => ?_)
                          · skip
                            have nq875 := Int32.not_lt.mpr cq875
                            refine G.cast (V' := (xwL K x y s (zPO1 (zPOTo y k836) k836) V)) (congrArg (fun q9 => xwL K x y s q9 V) (show (zPOTo y k836) = (zPO1 (zPOTo y k836) k836) from by first | exact (if_neg nq875).symm | exact (if_pos nq875).symm)) ?_
                            refine G.castL (lv' := [(0, .ref x), (1, .int u0), (2, .int v0), (3, .ref (x + 194)), (4, .ref (x + 195)), (5, .ref (x + 196)), (6, .ref (x + 197)), (7, .ref (x + 198)), (8, .ref (x + 199)), (9, .int (nI r3)), (10, .int (-1000002)), (11, .int (-1000001)), (12, .int (zPOSum y k836)), (13, .int (nI k836)), (14, .int (zBal (zPOTo y k836) k836))]) [4, 5, 6, 7, 8, 9, 10, 11, 12, 3, 2, 1, 13, 14, 0] rfl ?_
                            exact J890_6
                          · skip
                            have nq875 := Int32.not_le.mp cq875
                            obtain ⟨E878, hE878b, hE878⟩ := (hI.poTo k836 (by omega)).2.2.2.2.1
                            refine G.aload_n (pc := 878) cx dL_ship_878 rfl 7 rfl ?_
                            refine G.aload (pc := 879) cx dL_ship_879 9 rfl ?_
                            refine G.aload (pc := 881) cx dL_ship_881 12 rfl ?_
                            refine G.iload (pc := 883) cx dL_ship_883 14 rfl ?_
                            refine G.iload (pc := 885) cx dL_ship_885 0 rfl ?_
                            refine G.callSg (pc := 887) (rest := []) (st1 := []) cx (c_L_pay l K sz x y s (zPOTo y k836) V k836 (zBal (zPOTo y k836) k836) E878 (by omega) (by exact hE878) (by omega)) ok_L_pay dL_ship_887 wm_ml_L_69 rfl rfl (Nat.le_of_ble_eq_true rfl) ⟨Nat.le_of_ble_eq_true rfl, Nat.le_of_ble_eq_true rfl⟩ ⟨Nat.le_of_ble_eq_true rfl, Nat.le_of_ble_eq_true rfl⟩ rfl ?_
                            refine G.cast (V' := (xwL K x y s (zPO1 (zPOTo y k836) k836) V)) (congrArg (fun q9 => xwL K x y s q9 V) (show (zPay (zPOTo y k836) k836 (zBal (zPOTo y k836) k836)) = (zPO1 (zPOTo y k836) k836) from by first | exact (if_neg nq875).symm | exact (if_pos nq875).symm)) ?_
                            refine G.castL (lv' := [(0, .ref x), (1, .int u0), (2, .int v0), (3, .ref (x + 194)), (4, .ref (x + 195)), (5, .ref (x + 196)), (6, .ref (x + 197)), (7, .ref (x + 198)), (8, .ref (x + 199)), (9, .int (nI r3)), (10, .int (-1000002)), (11, .int (-1000001)), (12, .int (zPOSum y k836)), (13, .int (nI k836)), (14, .int (zBal (zPOTo y k836) k836))]) [4, 5, 6, 7, 8, 9, 10, 11, 12, 3, 2, 1, 13, 14, 0] rfl ?_
                            exact J890_6
                        · skip
                          refine G.goto (pc := 857) cx dL_ship_857 (tgt := 926) (by decide) ?_
                          refine G.iinc (pc := 926) cx dL_ship_926 (v := nI (k836 + 1)) (k := 13) rfl (nI_add k836 1) (by decide) rfl ?_
                          refine G.goto (pc := 929) cx dL_ship_929 (tgt := 836) (by decide) ?_
                          refine G.cast (V' := (xwL K x y s (zPOTo y (k836 + 1)) V)) (congrArg (fun q9 => xwL K x y s q9 V) (show (zPOTo y k836) = (zPOTo y (k836 + 1)) from by first | exact po_1 cq854 | exact po_g cq854 | exact ps_1 cq854 | exact ps_g cq854)) ?_
                          refine G.castL (lv' := [(11, .int (-1000001)), (10, .int (-1000002)), (9, .int (nI r3)), (0, .ref x), (1, .int u0), (2, .int v0), (3, .ref (x + 194)), (4, .ref (x + 195)), (5, .ref (x + 196)), (6, .ref (x + 197)), (7, .ref (x + 198)), (8, .ref (x + 199)), (12, .int (zPOSum y k836)), (13, .int (nI (k836 + 1)))]) [1, 2, 3, 4, 5, 6, 7, 8, 9, 10, 11, 12, 13, 0] rfl ?_
                          refine G.lv0 (lv2 := [(11, .int (-1000001)), (10, .int (-1000002)), (9, .int (nI r3)), (0, .ref x), (1, .int u0), (2, .int v0), (3, .ref (x + 194)), (4, .ref (x + 195)), (5, .ref (x + 196)), (6, .ref (x + 197)), (7, .ref (x + 198)), (8, .ref (x + 199)), (12, .int (zPOSum y (k836 + 1))), (13, .int (nI (k836 + 1)))]) (congrArg (fun q9 => ([(11, .int (-1000001)), (10, .int (-1000002)), (9, .int (nI r3)), (0, .ref x), (1, .int u0), (2, .int v0), (3, .ref (x + 194)), (4, .ref (x + 195)), (5, .ref (x + 196)), (6, .ref (x + 197)), (7, .ref (x + 198)), (8, .ref (x + 199)), (12, .int q9), (13, .int (nI (k836 + 1)))] : List (Nat × Value))) (show (zPOSum y k836 : Int32) = zPOSum y (k836 + 1) from by first | exact po_1 cq854 | exact po_g cq854 | exact ps_1 cq854 | exact ps_g cq854)) ?_
                          exact ih836 (k836 + 1) (by omega) (by omega)
                  refine G.cast (V' := (xwL K x y s (zPOTo y 0) V)) (congrArg (fun q9 => xwL K x y s q9 V) (show y = (zPOTo y 0) from by rfl)) ?_
                  refine G.castL (lv' := [(11, .int (-1000001)), (10, .int (-1000002)), (9, .int (nI r3)), (0, .ref x), (1, .int u0), (2, .int v0), (3, .ref (x + 194)), (4, .ref (x + 195)), (5, .ref (x + 196)), (6, .ref (x + 197)), (7, .ref (x + 198)), (8, .ref (x + 199)), (12, .int 0), (13, .int 0)]) [2, 3, 4, 5, 6, 7, 8, 9, 10, 11, 12, 13, 1, 0] rfl ?_
                  refine G.lv0 (lv2 := [(11, .int (-1000001)), (10, .int (-1000002)), (9, .int (nI r3)), (0, .ref x), (1, .int u0), (2, .int v0), (3, .ref (x + 194)), (4, .ref (x + 195)), (5, .ref (x + 196)), (6, .ref (x + 197)), (7, .ref (x + 198)), (8, .ref (x + 199)), (12, .int (zPOSum y 0)), (13, .int 0)]) (congrArg (fun q9 => ([(11, .int (-1000001)), (10, .int (-1000002)), (9, .int (nI r3)), (0, .ref x), (1, .int u0), (2, .int v0), (3, .ref (x + 194)), (4, .ref (x + 195)), (5, .ref (x + 196)), (6, .ref (x + 197)), (7, .ref (x + 198)), (8, .ref (x + 199)), (12, .int q9), (13, .int 0)] : List (Nat × Value))) (show (0 : Int32) = zPOSum y 0 from by rfl)) ?_
                  refine G.lv0 (lv2 := [(11, .int (-1000001)), (10, .int (-1000002)), (9, .int (nI r3)), (0, .ref x), (1, .int u0), (2, .int v0), (3, .ref (x + 194)), (4, .ref (x + 195)), (5, .ref (x + 196)), (6, .ref (x + 197)), (7, .ref (x + 198)), (8, .ref (x + 199)), (12, .int (zPOSum y 0)), (13, .int (nI 0))]) (congrArg (fun q9 => ([(11, .int (-1000001)), (10, .int (-1000002)), (9, .int (nI r3)), (0, .ref x), (1, .int u0), (2, .int v0), (3, .ref (x + 194)), (4, .ref (x + 195)), (5, .ref (x + 196)), (6, .ref (x + 197)), (7, .ref (x + 198)), (8, .ref (x + 199)), (12, .int (zPOSum y 0)), (13, .int q9)] : List (Nat × Value))) (show (0 : Int32) = nI 0 from by rfl)) ?_
                  exact L836_5 (N + 1) 0 (by omega) (by omega)
                · skip
                  refine G.castL (lv' := [(0, .ref x), (1, .int u0), (2, .int v0), (3, .ref (x + 194)), (4, .ref (x + 195)), (5, .ref (x + 196)), (6, .ref (x + 197)), (7, .ref (x + 198)), (8, .ref (x + 199)), (9, .int (nI r3)), (10, .int (-1000002)), (11, .int (-1000001))]) [3, 4, 5, 6, 7, 8, 9, 10, 11, 2, 1, 0] rfl ?_
                  exact J815_4 (by first | exact Or.inl cq806 | exact Or.inr cq812)
          · skip
            refine G.castL (lv' := [(0, .ref x), (1, .int u0), (2, .int v0), (3, .ref (x + 194)), (4, .ref (x + 195)), (5, .ref (x + 196)), (6, .ref (x + 197)), (7, .ref (x + 198)), (8, .ref (x + 199)), (9, .int (nI r3)), (10, .int (-1000002)), (11, .int (-1000001))]) [3, 4, 5, 6, 7, 8, 9, 10, 11, 2, 1, 0] rfl ?_
            exact J647_1
      · skip
        refine G.iload_n (pc := 418) cx dL_ship_418 rfl 5 rfl ?_
        refine G.iconst (pc := 419) cx dL_ship_419 (v := 1) (by decide) ?_
        refine G.iand (pc := 420) cx dL_ship_420 ?_
        obtain ⟨w421, hw421, ew421⟩ := pk_andE v0 (m := 1) 1 (by decide)
        refine G.castS (st' := [.int (nI w421)]) (by rw [ew421]) ?_
        refine G.istore (pc := 421) cx dL_ship_421 (by decide) rfl ?_
        refine G.iconst (pc := 423) cx dL_ship_423 (v := 0) (by decide) ?_
        refine G.istore (pc := 424) cx dL_ship_424 (by decide) rfl ?_
        refine G.iconst (pc := 426) cx dL_ship_426 (v := 0) (by decide) ?_
        refine G.istore (pc := 427) cx dL_ship_427 (by decide) rfl ?_
        refine G.iconst (pc := 429) cx dL_ship_429 (v := 0) (by decide) ?_
        refine G.istore (pc := 430) cx dL_ship_430 (by decide) rfl ?_
        have L432_9 : ∀ (fz k432 : Nat), N - k432 < fz → k432 ≤ N → G K p9 l e9 (rmL 7 0 0) s9 m9 a9 b9 t9 c9 (MQ b9 (QCp K (PoL K x V B) sz) a9 s9 0 0 (kA K)) 16 (xwL K x y s y V) sz 0 0 432 [(12, .int (nI w421)), (11, .int (-1000001)), (10, .int (-1000002)), (9, .int (nI r3)), (0, .ref x), (1, .int u0), (2, .int v0), (3, .ref (x + 194)), (4, .ref (x + 195)), (5, .ref (x + 196)), (6, .ref (x + 197)), (7, .ref (x + 198)), (8, .ref (x + 199)), (13, .int (nI (zAbo y (nI w421) k432))), (14, .int (b2 (lSo y k432 = true))), (15, .int (nI k432))] [] := by
          intro fz
          induction fz with
          | zero => intro k432 h9; omega
          | succ fz ih432 =>
            intro k432 h9432 h8432
            refine G.iload (pc := 432) cx dL_ship_432 15 rfl ?_
            refine G.aload_n (pc := 434) cx dL_ship_434 rfl 7 rfl ?_
            refine G.iconst (pc := 435) cx dL_ship_435 (v := 4) (by decide) ?_
            refine G.ialdV (pc := 436) cx dL_ship_436 xl_g (j := 4) rfl (by omega) (by decide) ((xr_g (n := 194) (by omega) (by omega)).trans (hN)) ?_
            refine G.icmp_geN (pc := 437) cx k432 N (by omega) (by omega) dL_ship_437 (tgt := 507) (by decide) (fun cq437 => ?_) (fun cq437 => ?_)
            · skip
              have nq437 := Nat.not_lt.mpr cq437
              have ex432 : k432 = N := by omega
              try rw [ex432]
              have J524_10 : (S = 1 ∨ lSo y N = true ∨ zAbo y (nI w421) N = 0) → G K p9 l e9 (rmL 7 0 0) s9 m9 a9 b9 t9 c9 (MQ b9 (QCp K (PoL K x V B) sz) a9 s9 0 0 (kA K)) 16 (xwL K x y s y V) sz 0 0 524 [(0, .ref x), (1, .int u0), (2, .int v0), (3, .ref (x + 194)), (4, .ref (x + 195)), (5, .ref (x + 196)), (6, .ref (x + 197)), (7, .ref (x + 198)), (8, .ref (x + 199)), (9, .int (nI r3)), (10, .int (-1000002)), (11, .int (-1000001)), (12, .int (nI w421)), (13, .int (nI (zAbo y (nI w421) N))), (14, .int (b2 (lSo y N = true))), (15, .int (nI N))] [] := by
                intro hor524
                refine G.aload_n (pc := 524) cx dL_ship_524 rfl 0 rfl ?_
                refine G.iload (pc := 525) cx dL_ship_525 12 rfl ?_
                obtain ⟨s527, hs527, hc527⟩ := k_no (c := -1000002) (k_leave (l := l) (K := K) (sz := sz) (x := x) (y := y) (V := V) hI hS (nI w421)) (by exact no_leave hI hSe hS1 (by omega) hor524) (by first | decide | (split <;> decide))
                refine G.callVg (pc := 527) (rest := []) (st1 := [.int (-1000002)]) cx hc527 ok_X9_leave dL_ship_527 wm_ml_L_81 rfl xw_o rfl (Nat.le_of_ble_eq_true rfl) ⟨Nat.le_of_ble_eq_true rfl, Nat.le_of_ble_eq_true rfl⟩ ⟨Nat.le_of_ble_eq_true rfl, Nat.le_of_ble_eq_true rfl⟩ rfl ?_
                refine G.iload (pc := 530) cx dL_ship_530 10 rfl ?_
                refine G.icmp_ne (pc := 532) cx dL_ship_532 (tgt := 549) (by decide) (fun h9 => absurd rfl h9) (fun _ => ?_)
                refine G.aload_n (pc := 535) cx dL_ship_535 rfl 0 rfl ?_
                refine G.iconst (pc := 536) cx dL_ship_536 (v := 2) (by decide) ?_
                obtain ⟨s537, hs537, hc537⟩ := k_no (c := -1000001) (k_leave (l := l) (K := K) (sz := sz) (x := x) (y := y) (V := V) hI hs527 2) (by exact bad_leave _ _) (by first | decide | (split <;> decide))
                refine G.callVg (pc := 537) (rest := []) (st1 := [.int (-1000001)]) cx hc537 ok_X9_leave dL_ship_537 wm_ml_L_81 rfl xw_o rfl (Nat.le_of_ble_eq_true rfl) ⟨Nat.le_of_ble_eq_true rfl, Nat.le_of_ble_eq_true rfl⟩ ⟨Nat.le_of_ble_eq_true rfl, Nat.le_of_ble_eq_true rfl⟩ rfl ?_
                refine G.iload (pc := 540) cx dL_ship_540 11 rfl ?_
                refine G.icmp_ne (pc := 542) cx dL_ship_542 (tgt := 549) (by decide) (fun h9 => absurd rfl h9) (fun _ => ?_)
                refine G.iconst (pc := 545) cx dL_ship_545 (v := 1) (by decide) ?_
                refine G.goto (pc := 546) cx dL_ship_546 (tgt := 550) (by decide) ?_
                refine G.zretP (pc := 550) cx rfl dL_ship_550 rfl ?_
                exact ⟨rfl, _, _, _, rfl, hs537, hI.B (Nat.le_succ B)⟩
              have hZ507 := zAbo_le y (nI w421) N
              refine G.aload_n (pc := 507) cx dL_ship_507 rfl 7 rfl ?_
              refine G.iconst (pc := 508) cx dL_ship_508 (v := 1) (by decide) ?_
              refine G.ialdV (pc := 509) cx dL_ship_509 xl_g (j := 1) rfl (by omega) (by decide) ((xr_g (n := 191) (by omega) (by omega)).trans (hSe)) ?_
              refine G.iconst (pc := 510) cx dL_ship_510 (v := 1) (by decide) ?_
              refine G.icmp_eqN (pc := 511) cx S 1 (by omega) (by omega) dL_ship_511 (tgt := 524) (by decide) (fun cq511 => ?_) (fun cq511 => ?_)
              · skip
                refine G.castL (lv' := [(0, .ref x), (1, .int u0), (2, .int v0), (3, .ref (x + 194)), (4, .ref (x + 195)), (5, .ref (x + 196)), (6, .ref (x + 197)), (7, .ref (x + 198)), (8, .ref (x + 199)), (9, .int (nI r3)), (10, .int (-1000002)), (11, .int (-1000001)), (12, .int (nI w421)), (13, .int (nI (zAbo y (nI w421) N))), (14, .int (b2 (lSo y N = true))), (15, .int (nI N))]) [4, 5, 6, 7, 8, 9, 10, 11, 12, 3, 2, 1, 0, 13, 14, 15] rfl ?_
                exact J524_10 (by first | exact Or.inl cq511 | exact Or.inr (Or.inl cq516) | exact Or.inr (Or.inr cq521))
              · skip
                refine G.iload (pc := 514) cx dL_ship_514 14 rfl ?_
                refine G.if_neB (pc := 516) cx dL_ship_516 (tgt := 524) (by decide) (fun cq516 => ?_) (fun cq516 => ?_)
                · skip
                  refine G.castL (lv' := [(0, .ref x), (1, .int u0), (2, .int v0), (3, .ref (x + 194)), (4, .ref (x + 195)), (5, .ref (x + 196)), (6, .ref (x + 197)), (7, .ref (x + 198)), (8, .ref (x + 199)), (9, .int (nI r3)), (10, .int (-1000002)), (11, .int (-1000001)), (12, .int (nI w421)), (13, .int (nI (zAbo y (nI w421) N))), (14, .int (b2 (lSo y N = true))), (15, .int (nI N))]) [4, 5, 6, 7, 8, 9, 10, 11, 12, 3, 2, 1, 0, 13, 14, 15] rfl ?_
                  exact J524_10 (by first | exact Or.inl cq511 | exact Or.inr (Or.inl cq516) | exact Or.inr (Or.inr cq521))
                · skip
                  refine G.iload (pc := 519) cx dL_ship_519 13 rfl ?_
                  refine G.if_neN (pc := 521) cx (zAbo y (nI w421) N) (by omega) dL_ship_521 (tgt := 551) (by decide) (fun cq521 => ?_) (fun cq521 => ?_)
                  · skip
                    refine G.iconst (pc := 551) cx dL_ship_551 (v := 0) (by decide) ?_
                    refine G.istore (pc := 552) cx dL_ship_552 (by decide) rfl ?_
                    have L554_11 : ∀ (fz k554 : Nat), N - k554 < fz → k554 ≤ N → G K p9 l e9 (rmL 7 0 0) s9 m9 a9 b9 t9 c9 (MQ b9 (QCp K (PoL K x V B) sz) a9 s9 0 0 (kA K)) 16 (xwL K x y s (zLeaveTo y (nI w421) k554) V) sz 0 0 554 [(12, .int (nI w421)), (11, .int (-1000001)), (10, .int (-1000002)), (9, .int (nI r3)), (0, .ref x), (1, .int u0), (2, .int v0), (3, .ref (x + 194)), (4, .ref (x + 195)), (5, .ref (x + 196)), (6, .ref (x + 197)), (7, .ref (x + 198)), (8, .ref (x + 199)), (13, .int (nI (zAbo y (nI w421) N))), (14, .int (b2 (lSo y N = true))), (15, .int (nI k554))] [] := by
                      intro fz
                      induction fz with
                      | zero => intro k554 h9; omega
                      | succ fz ih554 =>
                        intro k554 h9554 h8554
                        refine G.iload (pc := 554) cx dL_ship_554 15 rfl ?_
                        refine G.aload_n (pc := 556) cx dL_ship_556 rfl 7 rfl ?_
                        refine G.iconst (pc := 557) cx dL_ship_557 (v := 4) (by decide) ?_
                        refine G.ialdV (pc := 558) cx dL_ship_558 xl_g (j := 4) rfl (by omega) (by decide) ((xr_g (n := 194) (by omega) (by omega)).trans (((zLeaveTo_o _ _ _ (fun q hq => by omega)).trans hN))) ?_
                        refine G.icmp_geN (pc := 559) cx k554 N (by omega) (by omega) dL_ship_559 (tgt := 616) (by decide) (fun cq559 => ?_) (fun cq559 => ?_)
                        · skip
                          have nq559 := Nat.not_lt.mpr cq559
                          have ex554 : k554 = N := by omega
                          try rw [ex554]
                          refine G.aload_n (pc := 616) cx dL_ship_616 rfl 4 rfl ?_
                          refine G.iload (pc := 617) cx dL_ship_617 0 rfl ?_
                          obtain ⟨s619, hs619, hc619, M619, hi619⟩ := k_yes (v := nI (zAbo y (nI w421) N)) (D2 := zLeaveTo y (nI w421) N) (k_leave (l := l) (K := K) (sz := sz) (x := x) (y := (zLeaveTo y (nI w421) N)) (V := V) hI hS (nI w421)) (by exact yes_leave hI hSe hS1 (by omega) cq511 cq516 cq521) (by rfl) (by rfl)
                          refine G.callVg (pc := 619) (rest := []) (st1 := [.int (nI (zAbo y (nI w421) N))]) cx hc619 ok_X9_leave dL_ship_619 wm_ml_L_81 rfl xw_o rfl (Nat.le_of_ble_eq_true rfl) ⟨Nat.le_of_ble_eq_true rfl, Nat.le_of_ble_eq_true rfl⟩ ⟨Nat.le_of_ble_eq_true rfl, Nat.le_of_ble_eq_true rfl⟩ rfl ?_
                          refine G.iload (pc := 622) cx dL_ship_622 13 rfl ?_
                          refine G.icmp_ne (pc := 624) cx dL_ship_624 (tgt := 631) (by decide) (fun h9 => absurd rfl h9) (fun _ => ?_)
                          refine G.iconst (pc := 627) cx dL_ship_627 (v := 1) (by decide) ?_
                          refine G.goto (pc := 628) cx dL_ship_628 (tgt := 632) (by decide) ?_
                          refine G.zretP (pc := 632) cx rfl dL_ship_632 rfl ?_
                          exact ⟨rfl, _, _, _, rfl, hs619, hi619⟩
                        · skip
                          have nq559 := Nat.not_le.mpr cq559
                          refine G.aload (pc := 562) cx dL_ship_562 8 rfl ?_
                          refine G.iconst (pc := 564) cx dL_ship_564 (v := 3) (by decide) ?_
                          refine G.iload (pc := 565) cx dL_ship_565 15 rfl ?_
                          refine G.imulN (pc := 567) cx dL_ship_567 3 k554 ?_
                          refine G.iconst (pc := 568) cx dL_ship_568 (v := 2) (by decide) ?_
                          refine G.iaddN (pc := 569) cx dL_ship_569 (3 * k554) 2 ?_
                          refine G.aload (pc := 570) cx dL_ship_570 8 rfl ?_
                          refine G.iconst (pc := 572) cx dL_ship_572 (v := 3) (by decide) ?_
                          refine G.iload (pc := 573) cx dL_ship_573 15 rfl ?_
                          refine G.imulN (pc := 575) cx dL_ship_575 3 k554 ?_
                          refine G.iconst (pc := 576) cx dL_ship_576 (v := 1) (by decide) ?_
                          refine G.iaddN (pc := 577) cx dL_ship_577 (3 * k554) 1 ?_
                          refine G.ialdV (pc := 578) cx dL_ship_578 xl_a (j := ((3 * k554) + 1)) rfl (by omega) (by decide) (xr_a (n := 10 * k554 + 1) (by omega) (by omega)) ?_
                          refine G.iload (pc := 579) cx dL_ship_579 0 rfl ?_
                          refine G.icmp_ne (pc := 581) cx dL_ship_581 (tgt := 600) (by decide) (fun cq581 => ?_) (fun cq581 => ?_)
                          · skip
                            refine G.aload (pc := 600) cx dL_ship_600 8 rfl ?_
                            refine G.iconst (pc := 602) cx dL_ship_602 (v := 3) (by decide) ?_
                            refine G.iload (pc := 603) cx dL_ship_603 15 rfl ?_
                            refine G.imulN (pc := 605) cx dL_ship_605 3 k554 ?_
                            refine G.iconst (pc := 606) cx dL_ship_606 (v := 2) (by decide) ?_
                            refine G.iaddN (pc := 607) cx dL_ship_607 (3 * k554) 2 ?_
                            refine G.ialdV (pc := 608) cx dL_ship_608 xl_a (j := ((3 * k554) + 2)) rfl (by omega) (by decide) (xr_a (n := 10 * k554 + 2) (by omega) (by omega)) ?_
                            refine G.iastC (pc := 609) cx dL_ship_609 xl_a (j := ((3 * k554) + 2)) rfl (by omega) (by decide) (xs_a (n := 10 * k554 + 2) (by omega) (by omega)) ?_
                            refine G.iinc (pc := 610) cx dL_ship_610 (v := nI (k554 + 1)) (k := 15) rfl (nI_add k554 1) (by decide) rfl ?_
                            refine G.goto (pc := 613) cx dL_ship_613 (tgt := 554) (by decide) ?_
                            refine G.cast (V' := (xwL K x y s (zLeaveTo y (nI w421) (k554 + 1)) V)) (congrArg (fun q9 => xwL K x y s q9 V) (show (upd (zLeaveTo y (nI w421) k554) (10 * k554 + 2) ((zLeaveTo y (nI w421) k554) (10 * k554 + 2))) = (zLeaveTo y (nI w421) (k554 + 1)) from by first | exact lv_1 cq581 cq593 | exact lv_0 (Or.inl cq581) | exact lv_0 (Or.inr cq593))) ?_
                            refine G.castL (lv' := [(12, .int (nI w421)), (11, .int (-1000001)), (10, .int (-1000002)), (9, .int (nI r3)), (0, .ref x), (1, .int u0), (2, .int v0), (3, .ref (x + 194)), (4, .ref (x + 195)), (5, .ref (x + 196)), (6, .ref (x + 197)), (7, .ref (x + 198)), (8, .ref (x + 199)), (13, .int (nI (zAbo y (nI w421) N))), (14, .int (b2 (lSo y N = true))), (15, .int (nI (k554 + 1)))]) [1, 2, 3, 4, 5, 6, 7, 8, 9, 10, 11, 12, 13, 14, 15, 0] rfl ?_
                            exact ih554 (k554 + 1) (by omega) (by omega)
                          · skip
                            refine G.aload (pc := 584) cx dL_ship_584 8 rfl ?_
                            refine G.iconst (pc := 586) cx dL_ship_586 (v := 3) (by decide) ?_
                            refine G.iload (pc := 587) cx dL_ship_587 15 rfl ?_
                            refine G.imulN (pc := 589) cx dL_ship_589 3 k554 ?_
                            refine G.iconst (pc := 590) cx dL_ship_590 (v := 2) (by decide) ?_
                            refine G.iaddN (pc := 591) cx dL_ship_591 (3 * k554) 2 ?_
                            refine G.ialdV (pc := 592) cx dL_ship_592 xl_a (j := ((3 * k554) + 2)) rfl (by omega) (by decide) (xr_a (n := 10 * k554 + 2) (by omega) (by omega)) ?_
                            refine G.if_ne (pc := 593) cx dL_ship_593 (tgt := 600) (by decide) (fun cq593 => ?_) (fun cq593 => ?_)
                            · skip
                              refine G.aload (pc := 600) cx dL_ship_600 8 rfl ?_
                              refine G.iconst (pc := 602) cx dL_ship_602 (v := 3) (by decide) ?_
                              refine G.iload (pc := 603) cx dL_ship_603 15 rfl ?_
                              refine G.imulN (pc := 605) cx dL_ship_605 3 k554 ?_
                              refine G.iconst (pc := 606) cx dL_ship_606 (v := 2) (by decide) ?_
                              refine G.iaddN (pc := 607) cx dL_ship_607 (3 * k554) 2 ?_
                              refine G.ialdV (pc := 608) cx dL_ship_608 xl_a (j := ((3 * k554) + 2)) rfl (by omega) (by decide) (xr_a (n := 10 * k554 + 2) (by omega) (by omega)) ?_
                              refine G.iastC (pc := 609) cx dL_ship_609 xl_a (j := ((3 * k554) + 2)) rfl (by omega) (by decide) (xs_a (n := 10 * k554 + 2) (by omega) (by omega)) ?_
                              refine G.iinc (pc := 610) cx dL_ship_610 (v := nI (k554 + 1)) (k := 15) rfl (nI_add k554 1) (by decide) rfl ?_
                              refine G.goto (pc := 613) cx dL_ship_613 (tgt := 554) (by decide) ?_
                              refine G.cast (V' := (xwL K x y s (zLeaveTo y (nI w421) (k554 + 1)) V)) (congrArg (fun q9 => xwL K x y s q9 V) (show (upd (zLeaveTo y (nI w421) k554) (10 * k554 + 2) ((zLeaveTo y (nI w421) k554) (10 * k554 + 2))) = (zLeaveTo y (nI w421) (k554 + 1)) from by first | exact lv_1 cq581 cq593 | exact lv_0 (Or.inl cq581) | exact lv_0 (Or.inr cq593))) ?_
                              refine G.castL (lv' := [(12, .int (nI w421)), (11, .int (-1000001)), (10, .int (-1000002)), (9, .int (nI r3)), (0, .ref x), (1, .int u0), (2, .int v0), (3, .ref (x + 194)), (4, .ref (x + 195)), (5, .ref (x + 196)), (6, .ref (x + 197)), (7, .ref (x + 198)), (8, .ref (x + 199)), (13, .int (nI (zAbo y (nI w421) N))), (14, .int (b2 (lSo y N = true))), (15, .int (nI (k554 + 1)))]) [1, 2, 3, 4, 5, 6, 7, 8, 9, 10, 11, 12, 13, 14, 15, 0] rfl ?_
                              exact ih554 (k554 + 1) (by omega) (by omega)
                            · skip
                              refine G.iconst (pc := 596) cx dL_ship_596 (v := 1) (by decide) ?_
                              refine G.goto (pc := 597) cx dL_ship_597 (tgt := 609) (by decide) ?_
                              refine G.iastC (pc := 609) cx dL_ship_609 xl_a (j := ((3 * k554) + 2)) rfl (by omega) (by decide) (xs_a (n := 10 * k554 + 2) (by omega) (by omega)) ?_
                              refine G.iinc (pc := 610) cx dL_ship_610 (v := nI (k554 + 1)) (k := 15) rfl (nI_add k554 1) (by decide) rfl ?_
                              refine G.goto (pc := 613) cx dL_ship_613 (tgt := 554) (by decide) ?_
                              refine G.cast (V' := (xwL K x y s (zLeaveTo y (nI w421) (k554 + 1)) V)) (congrArg (fun q9 => xwL K x y s q9 V) (show (upd (zLeaveTo y (nI w421) k554) (10 * k554 + 2) 1) = (zLeaveTo y (nI w421) (k554 + 1)) from by first | exact lv_1 cq581 cq593 | exact lv_0 (Or.inl cq581) | exact lv_0 (Or.inr cq593))) ?_
                              refine G.castL (lv' := [(12, .int (nI w421)), (11, .int (-1000001)), (10, .int (-1000002)), (9, .int (nI r3)), (0, .ref x), (1, .int u0), (2, .int v0), (3, .ref (x + 194)), (4, .ref (x + 195)), (5, .ref (x + 196)), (6, .ref (x + 197)), (7, .ref (x + 198)), (8, .ref (x + 199)), (13, .int (nI (zAbo y (nI w421) N))), (14, .int (b2 (lSo y N = true))), (15, .int (nI (k554 + 1)))]) [1, 2, 3, 4, 5, 6, 7, 8, 9, 10, 11, 12, 13, 14, 15, 0] rfl ?_
                              exact ih554 (k554 + 1) (by omega) (by omega)
                    refine G.cast (V' := (xwL K x y s (zLeaveTo y (nI w421) 0) V)) (congrArg (fun q9 => xwL K x y s q9 V) (show y = (zLeaveTo y (nI w421) 0) from by rfl)) ?_
                    refine G.castL (lv' := [(12, .int (nI w421)), (11, .int (-1000001)), (10, .int (-1000002)), (9, .int (nI r3)), (0, .ref x), (1, .int u0), (2, .int v0), (3, .ref (x + 194)), (4, .ref (x + 195)), (5, .ref (x + 196)), (6, .ref (x + 197)), (7, .ref (x + 198)), (8, .ref (x + 199)), (13, .int (nI (zAbo y (nI w421) N))), (14, .int (b2 (lSo y N = true))), (15, .int 0)]) [1, 2, 3, 4, 5, 6, 7, 8, 9, 10, 11, 12, 13, 14, 15, 0] rfl ?_
                    refine G.lv0 (lv2 := [(12, .int (nI w421)), (11, .int (-1000001)), (10, .int (-1000002)), (9, .int (nI r3)), (0, .ref x), (1, .int u0), (2, .int v0), (3, .ref (x + 194)), (4, .ref (x + 195)), (5, .ref (x + 196)), (6, .ref (x + 197)), (7, .ref (x + 198)), (8, .ref (x + 199)), (13, .int (nI (zAbo y (nI w421) N))), (14, .int (b2 (lSo y N = true))), (15, .int (nI 0))]) (congrArg (fun q9 => ([(12, .int (nI w421)), (11, .int (-1000001)), (10, .int (-1000002)), (9, .int (nI r3)), (0, .ref x), (1, .int u0), (2, .int v0), (3, .ref (x + 194)), (4, .ref (x + 195)), (5, .ref (x + 196)), (6, .ref (x + 197)), (7, .ref (x + 198)), (8, .ref (x + 199)), (13, .int (nI (zAbo y (nI w421) N))), (14, .int (b2 (lSo y N = true))), (15, .int q9)] : List (Nat × Value))) (show (0 : Int32) = nI 0 from by rfl)) ?_
                    exact L554_11 (N + 1) 0 (by omega) (by omega)
                  · skip
                    refine G.castL (lv' := [(0, .ref x), (1, .int u0), (2, .int v0), (3, .ref (x + 194)), (4, .ref (x + 195)), (5, .ref (x + 196)), (6, .ref (x + 197)), (7, .ref (x + 198)), (8, .ref (x + 199)), (9, .int (nI r3)), (10, .int (-1000002)), (11, .int (-1000001)), (12, .int (nI w421)), (13, .int (nI (zAbo y (nI w421) N))), (14, .int (b2 (lSo y N = true))), (15, .int (nI N))]) [4, 5, 6, 7, 8, 9, 10, 11, 12, 3, 2, 1, 0, 13, 14, 15] rfl ?_
                    exact J524_10 (by first | exact Or.inl cq511 | exact Or.inr (Or.inl cq516) | exact Or.inr (Or.inr cq521))
            · skip
              have nq437 := Nat.not_le.mpr cq437
              refine G.iload (pc := 440) cx dL_ship_440 13 rfl ?_
              refine G.aload (pc := 442) cx dL_ship_442 8 rfl ?_
              refine G.iconst (pc := 444) cx dL_ship_444 (v := 3) (by decide) ?_
              refine G.iload (pc := 445) cx dL_ship_445 15 rfl ?_
              refine G.imulN (pc := 447) cx dL_ship_447 3 k432 ?_
              refine G.iconst (pc := 448) cx dL_ship_448 (v := 1) (by decide) ?_
              refine G.iaddN (pc := 449) cx dL_ship_449 (3 * k432) 1 ?_
              refine G.ialdV (pc := 450) cx dL_ship_450 xl_a (j := ((3 * k432) + 1)) rfl (by omega) (by decide) (xr_a (n := 10 * k432 + 1) (by omega) (by omega)) ?_
              refine G.iload (pc := 451) cx dL_ship_451 0 rfl ?_
              refine G.icmp_ne (pc := 453) cx dL_ship_453 (tgt := 472) (by decide) (fun cq453 => ?_) (fun cq453 => ?_)
              · skip
                refine G.iconst (pc := 472) cx dL_ship_472 (v := 0) (by decide) ?_
                refine G.iaddN (pc := 473) cx dL_ship_473 (zAbo y (nI w421) k432) 0 ?_
                refine G.istore (pc := 474) cx dL_ship_474 (by decide) rfl ?_
                refine G.iload (pc := 476) cx dL_ship_476 14 rfl ?_
                refine G.if_neB (pc := 478) cx dL_ship_478 (tgt := 494) (by decide) (fun cq478 => ?_) (fun cq478 => ?_)
                · skip
                  refine G.iconst (pc := 494) cx dL_ship_494 (v := 1) (by decide) ?_
                  refine G.goto (pc := 495) cx dL_ship_495 (tgt := 499) (by decide) ?_
                  refine G.istore (pc := 499) cx dL_ship_499 (by decide) rfl ?_
                  refine G.iinc (pc := 501) cx dL_ship_501 (v := nI (k432 + 1)) (k := 15) rfl (nI_add k432 1) (by decide) rfl ?_
                  refine G.goto (pc := 504) cx dL_ship_504 (tgt := 432) (by decide) ?_
                  refine G.castL (lv' := [(12, .int (nI w421)), (11, .int (-1000001)), (10, .int (-1000002)), (9, .int (nI r3)), (0, .ref x), (1, .int u0), (2, .int v0), (3, .ref (x + 194)), (4, .ref (x + 195)), (5, .ref (x + 196)), (6, .ref (x + 197)), (7, .ref (x + 198)), (8, .ref (x + 199)), (13, .int (nI ((zAbo y (nI w421) k432) + 0))), (14, .int 1), (15, .int (nI (k432 + 1)))]) [3, 4, 5, 6, 7, 8, 9, 10, 11, 12, 13, 14, 15, 2, 1, 0] rfl ?_
                  refine G.lv0 (lv2 := [(12, .int (nI w421)), (11, .int (-1000001)), (10, .int (-1000002)), (9, .int (nI r3)), (0, .ref x), (1, .int u0), (2, .int v0), (3, .ref (x + 194)), (4, .ref (x + 195)), (5, .ref (x + 196)), (6, .ref (x + 197)), (7, .ref (x + 198)), (8, .ref (x + 199)), (13, .int (nI (zAbo y (nI w421) (k432 + 1)))), (14, .int 1), (15, .int (nI (k432 + 1)))]) (congrArg (fun q9 => ([(12, .int (nI w421)), (11, .int (-1000001)), (10, .int (-1000002)), (9, .int (nI r3)), (0, .ref x), (1, .int u0), (2, .int v0), (3, .ref (x + 194)), (4, .ref (x + 195)), (5, .ref (x + 196)), (6, .ref (x + 197)), (7, .ref (x + 198)), (8, .ref (x + 199)), (13, .int q9), (14, .int 1), (15, .int (nI (k432 + 1)))] : List (Nat × Value))) (show (nI ((zAbo y (nI w421) k432) + 0) : Int32) = nI (zAbo y (nI w421) (k432 + 1)) from by first | exact ab_1 cq453 cq465 | exact ab_0 (Or.inl cq453) | exact ab_0 (Or.inr cq465) | exact so_1 cq478 | exact so_2 cq491 | exact so_0 cq478 cq491)) ?_
                  refine G.lv0 (lv2 := [(12, .int (nI w421)), (11, .int (-1000001)), (10, .int (-1000002)), (9, .int (nI r3)), (0, .ref x), (1, .int u0), (2, .int v0), (3, .ref (x + 194)), (4, .ref (x + 195)), (5, .ref (x + 196)), (6, .ref (x + 197)), (7, .ref (x + 198)), (8, .ref (x + 199)), (13, .int (nI (zAbo y (nI w421) (k432 + 1)))), (14, .int (b2 (lSo y (k432 + 1) = true))), (15, .int (nI (k432 + 1)))]) (congrArg (fun q9 => ([(12, .int (nI w421)), (11, .int (-1000001)), (10, .int (-1000002)), (9, .int (nI r3)), (0, .ref x), (1, .int u0), (2, .int v0), (3, .ref (x + 194)), (4, .ref (x + 195)), (5, .ref (x + 196)), (6, .ref (x + 197)), (7, .ref (x + 198)), (8, .ref (x + 199)), (13, .int (nI (zAbo y (nI w421) (k432 + 1)))), (14, .int q9), (15, .int (nI (k432 + 1)))] : List (Nat × Value))) (show (1 : Int32) = b2 (lSo y (k432 + 1) = true) from by first | exact ab_1 cq453 cq465 | exact ab_0 (Or.inl cq453) | exact ab_0 (Or.inr cq465) | exact so_1 cq478 | exact so_2 cq491 | exact so_0 cq478 cq491)) ?_
                  exact ih432 (k432 + 1) (by omega) (by omega)
                · skip
                  refine G.aload (pc := 481) cx dL_ship_481 9 rfl ?_
                  refine G.iconst (pc := 483) cx dL_ship_483 (v := 3) (by decide) ?_
                  refine G.iload (pc := 484) cx dL_ship_484 15 rfl ?_
                  refine G.imulN (pc := 486) cx dL_ship_486 3 k432 ?_
                  refine G.iconst (pc := 487) cx dL_ship_487 (v := 2) (by decide) ?_
                  refine G.iaddN (pc := 488) cx dL_ship_488 (3 * k432) 2 ?_
                  refine G.ialdV (pc := 489) cx dL_ship_489 xl_a (j := ((3 * k432) + 2)) rfl (by omega) (by decide) (xr_a (n := 10 * k432 + 2) (by omega) (by omega)) ?_
                  refine G.iconst (pc := 490) cx dL_ship_490 (v := 1) (by decide) ?_
                  refine G.icmp_ne (pc := 491) cx dL_ship_491 (tgt := 498) (by decide) (fun cq491 => ?_) (fun cq491 => ?_)
                  · skip
                    refine G.iconst (pc := 498) cx dL_ship_498 (v := 0) (by decide) ?_
                    refine G.istore (pc := 499) cx dL_ship_499 (by decide) rfl ?_
                    refine G.iinc (pc := 501) cx dL_ship_501 (v := nI (k432 + 1)) (k := 15) rfl (nI_add k432 1) (by decide) rfl ?_
                    refine G.goto (pc := 504) cx dL_ship_504 (tgt := 432) (by decide) ?_
                    refine G.castL (lv' := [(12, .int (nI w421)), (11, .int (-1000001)), (10, .int (-1000002)), (9, .int (nI r3)), (0, .ref x), (1, .int u0), (2, .int v0), (3, .ref (x + 194)), (4, .ref (x + 195)), (5, .ref (x + 196)), (6, .ref (x + 197)), (7, .ref (x + 198)), (8, .ref (x + 199)), (13, .int (nI ((zAbo y (nI w421) k432) + 0))), (14, .int 0), (15, .int (nI (k432 + 1)))]) [3, 4, 5, 6, 7, 8, 9, 10, 11, 12, 13, 14, 15, 2, 1, 0] rfl ?_
                    refine G.lv0 (lv2 := [(12, .int (nI w421)), (11, .int (-1000001)), (10, .int (-1000002)), (9, .int (nI r3)), (0, .ref x), (1, .int u0), (2, .int v0), (3, .ref (x + 194)), (4, .ref (x + 195)), (5, .ref (x + 196)), (6, .ref (x + 197)), (7, .ref (x + 198)), (8, .ref (x + 199)), (13, .int (nI (zAbo y (nI w421) (k432 + 1)))), (14, .int 0), (15, .int (nI (k432 + 1)))]) (congrArg (fun q9 => ([(12, .int (nI w421)), (11, .int (-1000001)), (10, .int (-1000002)), (9, .int (nI r3)), (0, .ref x), (1, .int u0), (2, .int v0), (3, .ref (x + 194)), (4, .ref (x + 195)), (5, .ref (x + 196)), (6, .ref (x + 197)), (7, .ref (x + 198)), (8, .ref (x + 199)), (13, .int q9), (14, .int 0), (15, .int (nI (k432 + 1)))] : List (Nat × Value))) (show (nI ((zAbo y (nI w421) k432) + 0) : Int32) = nI (zAbo y (nI w421) (k432 + 1)) from by first | exact ab_1 cq453 cq465 | exact ab_0 (Or.inl cq453) | exact ab_0 (Or.inr cq465) | exact so_1 cq478 | exact so_2 cq491 | exact so_0 cq478 cq491)) ?_
                    refine G.lv0 (lv2 := [(12, .int (nI w421)), (11, .int (-1000001)), (10, .int (-1000002)), (9, .int (nI r3)), (0, .ref x), (1, .int u0), (2, .int v0), (3, .ref (x + 194)), (4, .ref (x + 195)), (5, .ref (x + 196)), (6, .ref (x + 197)), (7, .ref (x + 198)), (8, .ref (x + 199)), (13, .int (nI (zAbo y (nI w421) (k432 + 1)))), (14, .int (b2 (lSo y (k432 + 1) = true))), (15, .int (nI (k432 + 1)))]) (congrArg (fun q9 => ([(12, .int (nI w421)), (11, .int (-1000001)), (10, .int (-1000002)), (9, .int (nI r3)), (0, .ref x), (1, .int u0), (2, .int v0), (3, .ref (x + 194)), (4, .ref (x + 195)), (5, .ref (x + 196)), (6, .ref (x + 197)), (7, .ref (x + 198)), (8, .ref (x + 199)), (13, .int (nI (zAbo y (nI w421) (k432 + 1)))), (14, .int q9), (15, .int (nI (k432 + 1)))] : List (Nat × Value))) (show (0 : Int32) = b2 (lSo y (k432 + 1) = true) from by first | exact ab_1 cq453 cq465 | exact ab_0 (Or.inl cq453) | exact ab_0 (Or.inr cq465) | exact so_1 cq478 | exact so_2 cq491 | exact so_0 cq478 cq491)) ?_
                    exact ih432 (k432 + 1) (by omega) (by omega)
                  · skip
                    refine G.iconst (pc := 494) cx dL_ship_494 (v := 1) (by decide) ?_
                    refine G.goto (pc := 495) cx dL_ship_495 (tgt := 499) (by decide) ?_
                    refine G.istore (pc := 499) cx dL_ship_499 (by decide) rfl ?_
                    refine G.iinc (pc := 501) cx dL_ship_501 (v := nI (k432 + 1)) (k := 15) rfl (nI_add k432 1) (by decide) rfl ?_
                    refine G.goto (pc := 504) cx dL_ship_504 (tgt := 432) (by decide) ?_
                    refine G.castL (lv' := [(12, .int (nI w421)), (11, .int (-1000001)), (10, .int (-1000002)), (9, .int (nI r3)), (0, .ref x), (1, .int u0), (2, .int v0), (3, .ref (x + 194)), (4, .ref (x + 195)), (5, .ref (x + 196)), (6, .ref (x + 197)), (7, .ref (x + 198)), (8, .ref (x + 199)), (13, .int (nI ((zAbo y (nI w421) k432) + 0))), (14, .int 1), (15, .int (nI (k432 + 1)))]) [3, 4, 5, 6, 7, 8, 9, 10, 11, 12, 13, 14, 15, 2, 1, 0] rfl ?_
                    refine G.lv0 (lv2 := [(12, .int (nI w421)), (11, .int (-1000001)), (10, .int (-1000002)), (9, .int (nI r3)), (0, .ref x), (1, .int u0), (2, .int v0), (3, .ref (x + 194)), (4, .ref (x + 195)), (5, .ref (x + 196)), (6, .ref (x + 197)), (7, .ref (x + 198)), (8, .ref (x + 199)), (13, .int (nI (zAbo y (nI w421) (k432 + 1)))), (14, .int 1), (15, .int (nI (k432 + 1)))]) (congrArg (fun q9 => ([(12, .int (nI w421)), (11, .int (-1000001)), (10, .int (-1000002)), (9, .int (nI r3)), (0, .ref x), (1, .int u0), (2, .int v0), (3, .ref (x + 194)), (4, .ref (x + 195)), (5, .ref (x + 196)), (6, .ref (x + 197)), (7, .ref (x + 198)), (8, .ref (x + 199)), (13, .int q9), (14, .int 1), (15, .int (nI (k432 + 1)))] : List (Nat × Value))) (show (nI ((zAbo y (nI w421) k432) + 0) : Int32) = nI (zAbo y (nI w421) (k432 + 1)) from by first | exact ab_1 cq453 cq465 | exact ab_0 (Or.inl cq453) | exact ab_0 (Or.inr cq465) | exact so_1 cq478 | exact so_2 cq491 | exact so_0 cq478 cq491)) ?_
                    refine G.lv0 (lv2 := [(12, .int (nI w421)), (11, .int (-1000001)), (10, .int (-1000002)), (9, .int (nI r3)), (0, .ref x), (1, .int u0), (2, .int v0), (3, .ref (x + 194)), (4, .ref (x + 195)), (5, .ref (x + 196)), (6, .ref (x + 197)), (7, .ref (x + 198)), (8, .ref (x + 199)), (13, .int (nI (zAbo y (nI w421) (k432 + 1)))), (14, .int (b2 (lSo y (k432 + 1) = true))), (15, .int (nI (k432 + 1)))]) (congrArg (fun q9 => ([(12, .int (nI w421)), (11, .int (-1000001)), (10, .int (-1000002)), (9, .int (nI r3)), (0, .ref x), (1, .int u0), (2, .int v0), (3, .ref (x + 194)), (4, .ref (x + 195)), (5, .ref (x + 196)), (6, .ref (x + 197)), (7, .ref (x + 198)), (8, .ref (x + 199)), (13, .int (nI (zAbo y (nI w421) (k432 + 1)))), (14, .int q9), (15, .int (nI (k432 + 1)))] : List (Nat × Value))) (show (1 : Int32) = b2 (lSo y (k432 + 1) = true) from by first | exact ab_1 cq453 cq465 | exact ab_0 (Or.inl cq453) | exact ab_0 (Or.inr cq465) | exact so_1 cq478 | exact so_2 cq491 | exact so_0 cq478 cq491)) ?_
                    exact ih432 (k432 + 1) (by omega) (by omega)
              · skip
                refine G.aload (pc := 456) cx dL_ship_456 8 rfl ?_
                refine G.iconst (pc := 458) cx dL_ship_458 (v := 3) (by decide) ?_
                refine G.iload (pc := 459) cx dL_ship_459 15 rfl ?_
                refine G.imulN (pc := 461) cx dL_ship_461 3 k432 ?_
                refine G.iconst (pc := 462) cx dL_ship_462 (v := 2) (by decide) ?_
                refine G.iaddN (pc := 463) cx dL_ship_463 (3 * k432) 2 ?_
                refine G.ialdV (pc := 464) cx dL_ship_464 xl_a (j := ((3 * k432) + 2)) rfl (by omega) (by decide) (xr_a (n := 10 * k432 + 2) (by omega) (by omega)) ?_
                refine G.if_ne (pc := 465) cx dL_ship_465 (tgt := 472) (by decide) (fun cq465 => ?_) (fun cq465 => ?_)
                · skip
                  refine G.iconst (pc := 472) cx dL_ship_472 (v := 0) (by decide) ?_
                  refine G.iaddN (pc := 473) cx dL_ship_473 (zAbo y (nI w421) k432) 0 ?_
                  refine G.istore (pc := 474) cx dL_ship_474 (by decide) rfl ?_
                  refine G.iload (pc := 476) cx dL_ship_476 14 rfl ?_
                  refine G.if_neB (pc := 478) cx dL_ship_478 (tgt := 494) (by decide) (fun cq478 => ?_) (fun cq478 => ?_)
                  · skip
                    refine G.iconst (pc := 494) cx dL_ship_494 (v := 1) (by decide) ?_
                    refine G.goto (pc := 495) cx dL_ship_495 (tgt := 499) (by decide) ?_
                    refine G.istore (pc := 499) cx dL_ship_499 (by decide) rfl ?_
                    refine G.iinc (pc := 501) cx dL_ship_501 (v := nI (k432 + 1)) (k := 15) rfl (nI_add k432 1) (by decide) rfl ?_
                    refine G.goto (pc := 504) cx dL_ship_504 (tgt := 432) (by decide) ?_
                    refine G.castL (lv' := [(12, .int (nI w421)), (11, .int (-1000001)), (10, .int (-1000002)), (9, .int (nI r3)), (0, .ref x), (1, .int u0), (2, .int v0), (3, .ref (x + 194)), (4, .ref (x + 195)), (5, .ref (x + 196)), (6, .ref (x + 197)), (7, .ref (x + 198)), (8, .ref (x + 199)), (13, .int (nI ((zAbo y (nI w421) k432) + 0))), (14, .int 1), (15, .int (nI (k432 + 1)))]) [3, 4, 5, 6, 7, 8, 9, 10, 11, 12, 13, 14, 15, 2, 1, 0] rfl ?_
                    refine G.lv0 (lv2 := [(12, .int (nI w421)), (11, .int (-1000001)), (10, .int (-1000002)), (9, .int (nI r3)), (0, .ref x), (1, .int u0), (2, .int v0), (3, .ref (x + 194)), (4, .ref (x + 195)), (5, .ref (x + 196)), (6, .ref (x + 197)), (7, .ref (x + 198)), (8, .ref (x + 199)), (13, .int (nI (zAbo y (nI w421) (k432 + 1)))), (14, .int 1), (15, .int (nI (k432 + 1)))]) (congrArg (fun q9 => ([(12, .int (nI w421)), (11, .int (-1000001)), (10, .int (-1000002)), (9, .int (nI r3)), (0, .ref x), (1, .int u0), (2, .int v0), (3, .ref (x + 194)), (4, .ref (x + 195)), (5, .ref (x + 196)), (6, .ref (x + 197)), (7, .ref (x + 198)), (8, .ref (x + 199)), (13, .int q9), (14, .int 1), (15, .int (nI (k432 + 1)))] : List (Nat × Value))) (show (nI ((zAbo y (nI w421) k432) + 0) : Int32) = nI (zAbo y (nI w421) (k432 + 1)) from by first | exact ab_1 cq453 cq465 | exact ab_0 (Or.inl cq453) | exact ab_0 (Or.inr cq465) | exact so_1 cq478 | exact so_2 cq491 | exact so_0 cq478 cq491)) ?_
                    refine G.lv0 (lv2 := [(12, .int (nI w421)), (11, .int (-1000001)), (10, .int (-1000002)), (9, .int (nI r3)), (0, .ref x), (1, .int u0), (2, .int v0), (3, .ref (x + 194)), (4, .ref (x + 195)), (5, .ref (x + 196)), (6, .ref (x + 197)), (7, .ref (x + 198)), (8, .ref (x + 199)), (13, .int (nI (zAbo y (nI w421) (k432 + 1)))), (14, .int (b2 (lSo y (k432 + 1) = true))), (15, .int (nI (k432 + 1)))]) (congrArg (fun q9 => ([(12, .int (nI w421)), (11, .int (-1000001)), (10, .int (-1000002)), (9, .int (nI r3)), (0, .ref x), (1, .int u0), (2, .int v0), (3, .ref (x + 194)), (4, .ref (x + 195)), (5, .ref (x + 196)), (6, .ref (x + 197)), (7, .ref (x + 198)), (8, .ref (x + 199)), (13, .int (nI (zAbo y (nI w421) (k432 + 1)))), (14, .int q9), (15, .int (nI (k432 + 1)))] : List (Nat × Value))) (show (1 : Int32) = b2 (lSo y (k432 + 1) = true) from by first | exact ab_1 cq453 cq465 | exact ab_0 (Or.inl cq453) | exact ab_0 (Or.inr cq465) | exact so_1 cq478 | exact so_2 cq491 | exact so_0 cq478 cq491)) ?_
                    exact ih432 (k432 + 1) (by omega) (by omega)
                  · skip
                    refine G.aload (pc := 481) cx dL_ship_481 9 rfl ?_
                    refine G.iconst (pc := 483) cx dL_ship_483 (v := 3) (by decide) ?_
                    refine G.iload (pc := 484) cx dL_ship_484 15 rfl ?_
                    refine G.imulN (pc := 486) cx dL_ship_486 3 k432 ?_
                    refine G.iconst (pc := 487) cx dL_ship_487 (v := 2) (by decide) ?_
                    refine G.iaddN (pc := 488) cx dL_ship_488 (3 * k432) 2 ?_
                    refine G.ialdV (pc := 489) cx dL_ship_489 xl_a (j := ((3 * k432) + 2)) rfl (by omega) (by decide) (xr_a (n := 10 * k432 + 2) (by omega) (by omega)) ?_
                    refine G.iconst (pc := 490) cx dL_ship_490 (v := 1) (by decide) ?_
                    refine G.icmp_ne (pc := 491) cx dL_ship_491 (tgt := 498) (by decide) (fun cq491 => ?_) (fun cq491 => ?_)
                    · skip
                      refine G.iconst (pc := 498) cx dL_ship_498 (v := 0) (by decide) ?_
                      refine G.istore (pc := 499) cx dL_ship_499 (by decide) rfl ?_
                      refine G.iinc (pc := 501) cx dL_ship_501 (v := nI (k432 + 1)) (k := 15) rfl (nI_add k432 1) (by decide) rfl ?_
                      refine G.goto (pc := 504) cx dL_ship_504 (tgt := 432) (by decide) ?_
                      refine G.castL (lv' := [(12, .int (nI w421)), (11, .int (-1000001)), (10, .int (-1000002)), (9, .int (nI r3)), (0, .ref x), (1, .int u0), (2, .int v0), (3, .ref (x + 194)), (4, .ref (x + 195)), (5, .ref (x + 196)), (6, .ref (x + 197)), (7, .ref (x + 198)), (8, .ref (x + 199)), (13, .int (nI ((zAbo y (nI w421) k432) + 0))), (14, .int 0), (15, .int (nI (k432 + 1)))]) [3, 4, 5, 6, 7, 8, 9, 10, 11, 12, 13, 14, 15, 2, 1, 0] rfl ?_
                      refine G.lv0 (lv2 := [(12, .int (nI w421)), (11, .int (-1000001)), (10, .int (-1000002)), (9, .int (nI r3)), (0, .ref x), (1, .int u0), (2, .int v0), (3, .ref (x + 194)), (4, .ref (x + 195)), (5, .ref (x + 196)), (6, .ref (x + 197)), (7, .ref (x + 198)), (8, .ref (x + 199)), (13, .int (nI (zAbo y (nI w421) (k432 + 1)))), (14, .int 0), (15, .int (nI (k432 + 1)))]) (congrArg (fun q9 => ([(12, .int (nI w421)), (11, .int (-1000001)), (10, .int (-1000002)), (9, .int (nI r3)), (0, .ref x), (1, .int u0), (2, .int v0), (3, .ref (x + 194)), (4, .ref (x + 195)), (5, .ref (x + 196)), (6, .ref (x + 197)), (7, .ref (x + 198)), (8, .ref (x + 199)), (13, .int q9), (14, .int 0), (15, .int (nI (k432 + 1)))] : List (Nat × Value))) (show (nI ((zAbo y (nI w421) k432) + 0) : Int32) = nI (zAbo y (nI w421) (k432 + 1)) from by first | exact ab_1 cq453 cq465 | exact ab_0 (Or.inl cq453) | exact ab_0 (Or.inr cq465) | exact so_1 cq478 | exact so_2 cq491 | exact so_0 cq478 cq491)) ?_
                      refine G.lv0 (lv2 := [(12, .int (nI w421)), (11, .int (-1000001)), (10, .int (-1000002)), (9, .int (nI r3)), (0, .ref x), (1, .int u0), (2, .int v0), (3, .ref (x + 194)), (4, .ref (x + 195)), (5, .ref (x + 196)), (6, .ref (x + 197)), (7, .ref (x + 198)), (8, .ref (x + 199)), (13, .int (nI (zAbo y (nI w421) (k432 + 1)))), (14, .int (b2 (lSo y (k432 + 1) = true))), (15, .int (nI (k432 + 1)))]) (congrArg (fun q9 => ([(12, .int (nI w421)), (11, .int (-1000001)), (10, .int (-1000002)), (9, .int (nI r3)), (0, .ref x), (1, .int u0), (2, .int v0), (3, .ref (x + 194)), (4, .ref (x + 195)), (5, .ref (x + 196)), (6, .ref (x + 197)), (7, .ref (x + 198)), (8, .ref (x + 199)), (13, .int (nI (zAbo y (nI w421) (k432 + 1)))), (14, .int q9), (15, .int (nI (k432 + 1)))] : List (Nat × Value))) (show (0 : Int32) = b2 (lSo y (k432 + 1) = true) from by first | exact ab_1 cq453 cq465 | exact ab_0 (Or.inl cq453) | exact ab_0 (Or.inr cq465) | exact so_1 cq478 | exact so_2 cq491 | exact so_0 cq478 cq491)) ?_
                      exact ih432 (k432 + 1) (by omega) (by omega)
                    · skip
                      refine G.iconst (pc := 494) cx dL_ship_494 (v := 1) (by decide) ?_
                      refine G.goto (pc := 495) cx dL_ship_495 (tgt := 499) (by decide) ?_
                      refine G.istore (pc := 499) cx dL_ship_499 (by decide) rfl ?_
                      refine G.iinc (pc := 501) cx dL_ship_501 (v := nI (k432 + 1)) (k := 15) rfl (nI_add k432 1) (by decide) rfl ?_
                      refine G.goto (pc := 504) cx dL_ship_504 (tgt := 432) (by decide) ?_
                      refine G.castL (lv' := [(12, .int (nI w421)), (11, .int (-1000001)), (10, .int (-1000002)), (9, .int (nI r3)), (0, .ref x), (1, .int u0), (2, .int v0), (3, .ref (x + 194)), (4, .ref (x + 195)), (5, .ref (x + 196)), (6, .ref (x + 197)), (7, .ref (x + 198)), (8, .ref (x + 199)), (13, .int (nI ((zAbo y (nI w421) k432) + 0))), (14, .int 1), (15, .int (nI (k432 + 1)))]) [3, 4, 5, 6, 7, 8, 9, 10, 11, 12, 13, 14, 15, 2, 1, 0] rfl ?_
                      refine G.lv0 (lv2 := [(12, .int (nI w421)), (11, .int (-1000001)), (10, .int (-1000002)), (9, .int (nI r3)), (0, .ref x), (1, .int u0), (2, .int v0), (3, .ref (x + 194)), (4, .ref (x + 195)), (5, .ref (x + 196)), (6, .ref (x + 197)), (7, .ref (x + 198)), (8, .ref (x + 199)), (13, .int (nI (zAbo y (nI w421) (k432 + 1)))), (14, .int 1), (15, .int (nI (k432 + 1)))]) (congrArg (fun q9 => ([(12, .int (nI w421)), (11, .int (-1000001)), (10, .int (-1000002)), (9, .int (nI r3)), (0, .ref x), (1, .int u0), (2, .int v0), (3, .ref (x + 194)), (4, .ref (x + 195)), (5, .ref (x + 196)), (6, .ref (x + 197)), (7, .ref (x + 198)), (8, .ref (x + 199)), (13, .int q9), (14, .int 1), (15, .int (nI (k432 + 1)))] : List (Nat × Value))) (show (nI ((zAbo y (nI w421) k432) + 0) : Int32) = nI (zAbo y (nI w421) (k432 + 1)) from by first | exact ab_1 cq453 cq465 | exact ab_0 (Or.inl cq453) | exact ab_0 (Or.inr cq465) | exact so_1 cq478 | exact so_2 cq491 | exact so_0 cq478 cq491)) ?_
                      refine G.lv0 (lv2 := [(12, .int (nI w421)), (11, .int (-1000001)), (10, .int (-1000002)), (9, .int (nI r3)), (0, .ref x), (1, .int u0), (2, .int v0), (3, .ref (x + 194)), (4, .ref (x + 195)), (5, .ref (x + 196)), (6, .ref (x + 197)), (7, .ref (x + 198)), (8, .ref (x + 199)), (13, .int (nI (zAbo y (nI w421) (k432 + 1)))), (14, .int (b2 (lSo y (k432 + 1) = true))), (15, .int (nI (k432 + 1)))]) (congrArg (fun q9 => ([(12, .int (nI w421)), (11, .int (-1000001)), (10, .int (-1000002)), (9, .int (nI r3)), (0, .ref x), (1, .int u0), (2, .int v0), (3, .ref (x + 194)), (4, .ref (x + 195)), (5, .ref (x + 196)), (6, .ref (x + 197)), (7, .ref (x + 198)), (8, .ref (x + 199)), (13, .int (nI (zAbo y (nI w421) (k432 + 1)))), (14, .int q9), (15, .int (nI (k432 + 1)))] : List (Nat × Value))) (show (1 : Int32) = b2 (lSo y (k432 + 1) = true) from by first | exact ab_1 cq453 cq465 | exact ab_0 (Or.inl cq453) | exact ab_0 (Or.inr cq465) | exact so_1 cq478 | exact so_2 cq491 | exact so_0 cq478 cq491)) ?_
                      exact ih432 (k432 + 1) (by omega) (by omega)
                · skip
                  refine G.iconst (pc := 468) cx dL_ship_468 (v := 1) (by decide) ?_
                  refine G.goto (pc := 469) cx dL_ship_469 (tgt := 473) (by decide) ?_
                  refine G.iaddN (pc := 473) cx dL_ship_473 (zAbo y (nI w421) k432) 1 ?_
                  refine G.istore (pc := 474) cx dL_ship_474 (by decide) rfl ?_
                  refine G.iload (pc := 476) cx dL_ship_476 14 rfl ?_
                  refine G.if_neB (pc := 478) cx dL_ship_478 (tgt := 494) (by decide) (fun cq478 => ?_) (fun cq478 => ?_)
                  · skip
                    refine G.iconst (pc := 494) cx dL_ship_494 (v := 1) (by decide) ?_
                    refine G.goto (pc := 495) cx dL_ship_495 (tgt := 499) (by decide) ?_
                    refine G.istore (pc := 499) cx dL_ship_499 (by decide) rfl ?_
                    refine G.iinc (pc := 501) cx dL_ship_501 (v := nI (k432 + 1)) (k := 15) rfl (nI_add k432 1) (by decide) rfl ?_
                    refine G.goto (pc := 504) cx dL_ship_504 (tgt := 432) (by decide) ?_
                    refine G.castL (lv' := [(12, .int (nI w421)), (11, .int (-1000001)), (10, .int (-1000002)), (9, .int (nI r3)), (0, .ref x), (1, .int u0), (2, .int v0), (3, .ref (x + 194)), (4, .ref (x + 195)), (5, .ref (x + 196)), (6, .ref (x + 197)), (7, .ref (x + 198)), (8, .ref (x + 199)), (13, .int (nI ((zAbo y (nI w421) k432) + 1))), (14, .int 1), (15, .int (nI (k432 + 1)))]) [3, 4, 5, 6, 7, 8, 9, 10, 11, 12, 13, 14, 15, 2, 1, 0] rfl ?_
                    refine G.lv0 (lv2 := [(12, .int (nI w421)), (11, .int (-1000001)), (10, .int (-1000002)), (9, .int (nI r3)), (0, .ref x), (1, .int u0), (2, .int v0), (3, .ref (x + 194)), (4, .ref (x + 195)), (5, .ref (x + 196)), (6, .ref (x + 197)), (7, .ref (x + 198)), (8, .ref (x + 199)), (13, .int (nI (zAbo y (nI w421) (k432 + 1)))), (14, .int 1), (15, .int (nI (k432 + 1)))]) (congrArg (fun q9 => ([(12, .int (nI w421)), (11, .int (-1000001)), (10, .int (-1000002)), (9, .int (nI r3)), (0, .ref x), (1, .int u0), (2, .int v0), (3, .ref (x + 194)), (4, .ref (x + 195)), (5, .ref (x + 196)), (6, .ref (x + 197)), (7, .ref (x + 198)), (8, .ref (x + 199)), (13, .int q9), (14, .int 1), (15, .int (nI (k432 + 1)))] : List (Nat × Value))) (show (nI ((zAbo y (nI w421) k432) + 1) : Int32) = nI (zAbo y (nI w421) (k432 + 1)) from by first | exact ab_1 cq453 cq465 | exact ab_0 (Or.inl cq453) | exact ab_0 (Or.inr cq465) | exact so_1 cq478 | exact so_2 cq491 | exact so_0 cq478 cq491)) ?_
                    refine G.lv0 (lv2 := [(12, .int (nI w421)), (11, .int (-1000001)), (10, .int (-1000002)), (9, .int (nI r3)), (0, .ref x), (1, .int u0), (2, .int v0), (3, .ref (x + 194)), (4, .ref (x + 195)), (5, .ref (x + 196)), (6, .ref (x + 197)), (7, .ref (x + 198)), (8, .ref (x + 199)), (13, .int (nI (zAbo y (nI w421) (k432 + 1)))), (14, .int (b2 (lSo y (k432 + 1) = true))), (15, .int (nI (k432 + 1)))]) (congrArg (fun q9 => ([(12, .int (nI w421)), (11, .int (-1000001)), (10, .int (-1000002)), (9, .int (nI r3)), (0, .ref x), (1, .int u0), (2, .int v0), (3, .ref (x + 194)), (4, .ref (x + 195)), (5, .ref (x + 196)), (6, .ref (x + 197)), (7, .ref (x + 198)), (8, .ref (x + 199)), (13, .int (nI (zAbo y (nI w421) (k432 + 1)))), (14, .int q9), (15, .int (nI (k432 + 1)))] : List (Nat × Value))) (show (1 : Int32) = b2 (lSo y (k432 + 1) = true) from by first | exact ab_1 cq453 cq465 | exact ab_0 (Or.inl cq453) | exact ab_0 (Or.inr cq465) | exact so_1 cq478 | exact so_2 cq491 | exact so_0 cq478 cq491)) ?_
                    exact ih432 (k432 + 1) (by omega) (by omega)
                  · skip
                    refine G.aload (pc := 481) cx dL_ship_481 9 rfl ?_
                    refine G.iconst (pc := 483) cx dL_ship_483 (v := 3) (by decide) ?_
                    refine G.iload (pc := 484) cx dL_ship_484 15 rfl ?_
                    refine G.imulN (pc := 486) cx dL_ship_486 3 k432 ?_
                    refine G.iconst (pc := 487) cx dL_ship_487 (v := 2) (by decide) ?_
                    refine G.iaddN (pc := 488) cx dL_ship_488 (3 * k432) 2 ?_
                    refine G.ialdV (pc := 489) cx dL_ship_489 xl_a (j := ((3 * k432) + 2)) rfl (by omega) (by decide) (xr_a (n := 10 * k432 + 2) (by omega) (by omega)) ?_
                    refine G.iconst (pc := 490) cx dL_ship_490 (v := 1) (by decide) ?_
                    refine G.icmp_ne (pc := 491) cx dL_ship_491 (tgt := 498) (by decide) (fun cq491 => ?_) (fun cq491 => ?_)
                    · skip
                      refine G.iconst (pc := 498) cx dL_ship_498 (v := 0) (by decide) ?_
                      refine G.istore (pc := 499) cx dL_ship_499 (by decide) rfl ?_
                      refine G.iinc (pc := 501) cx dL_ship_501 (v := nI (k432 + 1)) (k := 15) rfl (nI_add k432 1) (by decide) rfl ?_
                      refine G.goto (pc := 504) cx dL_ship_504 (tgt := 432) (by decide) ?_
                      refine G.castL (lv' := [(12, .int (nI w421)), (11, .int (-1000001)), (10, .int (-1000002)), (9, .int (nI r3)), (0, .ref x), (1, .int u0), (2, .int v0), (3, .ref (x + 194)), (4, .ref (x + 195)), (5, .ref (x + 196)), (6, .ref (x + 197)), (7, .ref (x + 198)), (8, .ref (x + 199)), (13, .int (nI ((zAbo y (nI w421) k432) + 1))), (14, .int 0), (15, .int (nI (k432 + 1)))]) [3, 4, 5, 6, 7, 8, 9, 10, 11, 12, 13, 14, 15, 2, 1, 0] rfl ?_
                      refine G.lv0 (lv2 := [(12, .int (nI w421)), (11, .int (-1000001)), (10, .int (-1000002)), (9, .int (nI r3)), (0, .ref x), (1, .int u0), (2, .int v0), (3, .ref (x + 194)), (4, .ref (x + 195)), (5, .ref (x + 196)), (6, .ref (x + 197)), (7, .ref (x + 198)), (8, .ref (x + 199)), (13, .int (nI (zAbo y (nI w421) (k432 + 1)))), (14, .int 0), (15, .int (nI (k432 + 1)))]) (congrArg (fun q9 => ([(12, .int (nI w421)), (11, .int (-1000001)), (10, .int (-1000002)), (9, .int (nI r3)), (0, .ref x), (1, .int u0), (2, .int v0), (3, .ref (x + 194)), (4, .ref (x + 195)), (5, .ref (x + 196)), (6, .ref (x + 197)), (7, .ref (x + 198)), (8, .ref (x + 199)), (13, .int q9), (14, .int 0), (15, .int (nI (k432 + 1)))] : List (Nat × Value))) (show (nI ((zAbo y (nI w421) k432) + 1) : Int32) = nI (zAbo y (nI w421) (k432 + 1)) from by first | exact ab_1 cq453 cq465 | exact ab_0 (Or.inl cq453) | exact ab_0 (Or.inr cq465) | exact so_1 cq478 | exact so_2 cq491 | exact so_0 cq478 cq491)) ?_
                      refine G.lv0 (lv2 := [(12, .int (nI w421)), (11, .int (-1000001)), (10, .int (-1000002)), (9, .int (nI r3)), (0, .ref x), (1, .int u0), (2, .int v0), (3, .ref (x + 194)), (4, .ref (x + 195)), (5, .ref (x + 196)), (6, .ref (x + 197)), (7, .ref (x + 198)), (8, .ref (x + 199)), (13, .int (nI (zAbo y (nI w421) (k432 + 1)))), (14, .int (b2 (lSo y (k432 + 1) = true))), (15, .int (nI (k432 + 1)))]) (congrArg (fun q9 => ([(12, .int (nI w421)), (11, .int (-1000001)), (10, .int (-1000002)), (9, .int (nI r3)), (0, .ref x), (1, .int u0), (2, .int v0), (3, .ref (x + 194)), (4, .ref (x + 195)), (5, .ref (x + 196)), (6, .ref (x + 197)), (7, .ref (x + 198)), (8, .ref (x + 199)), (13, .int (nI (zAbo y (nI w421) (k432 + 1)))), (14, .int q9), (15, .int (nI (k432 + 1)))] : List (Nat × Value))) (show (0 : Int32) = b2 (lSo y (k432 + 1) = true) from by first | exact ab_1 cq453 cq465 | exact ab_0 (Or.inl cq453) | exact ab_0 (Or.inr cq465) | exact so_1 cq478 | exact so_2 cq491 | exact so_0 cq478 cq491)) ?_
                      exact ih432 (k432 + 1) (by omega) (by omega)
                    · skip
                      refine G.iconst (pc := 494) cx dL_ship_494 (v := 1) (by decide) ?_
                      refine G.goto (pc := 495) cx dL_ship_495 (tgt := 499) (by decide) ?_
                      refine G.istore (pc := 499) cx dL_ship_499 (by decide) rfl ?_
                      refine G.iinc (pc := 501) cx dL_ship_501 (v := nI (k432 + 1)) (k := 15) rfl (nI_add k432 1) (by decide) rfl ?_
                      refine G.goto (pc := 504) cx dL_ship_504 (tgt := 432) (by decide) ?_
                      refine G.castL (lv' := [(12, .int (nI w421)), (11, .int (-1000001)), (10, .int (-1000002)), (9, .int (nI r3)), (0, .ref x), (1, .int u0), (2, .int v0), (3, .ref (x + 194)), (4, .ref (x + 195)), (5, .ref (x + 196)), (6, .ref (x + 197)), (7, .ref (x + 198)), (8, .ref (x + 199)), (13, .int (nI ((zAbo y (nI w421) k432) + 1))), (14, .int 1), (15, .int (nI (k432 + 1)))]) [3, 4, 5, 6, 7, 8, 9, 10, 11, 12, 13, 14, 15, 2, 1, 0] rfl ?_
                      refine G.lv0 (lv2 := [(12, .int (nI w421)), (11, .int (-1000001)), (10, .int (-1000002)), (9, .int (nI r3)), (0, .ref x), (1, .int u0), (2, .int v0), (3, .ref (x + 194)), (4, .ref (x + 195)), (5, .ref (x + 196)), (6, .ref (x + 197)), (7, .ref (x + 198)), (8, .ref (x + 199)), (13, .int (nI (zAbo y (nI w421) (k432 + 1)))), (14, .int 1), (15, .int (nI (k432 + 1)))]) (congrArg (fun q9 => ([(12, .int (nI w421)), (11, .int (-1000001)), (10, .int (-1000002)), (9, .int (nI r3)), (0, .ref x), (1, .int u0), (2, .int v0), (3, .ref (x + 194)), (4, .ref (x + 195)), (5, .ref (x + 196)), (6, .ref (x + 197)), (7, .ref (x + 198)), (8, .ref (x + 199)), (13, .int q9), (14, .int 1), (15, .int (nI (k432 + 1)))] : List (Nat × Value))) (show (nI ((zAbo y (nI w421) k432) + 1) : Int32) = nI (zAbo y (nI w421) (k432 + 1)) from by first | exact ab_1 cq453 cq465 | exact ab_0 (Or.inl cq453) | exact ab_0 (Or.inr cq465) | exact so_1 cq478 | exact so_2 cq491 | exact so_0 cq478 cq491)) ?_
                      refine G.lv0 (lv2 := [(12, .int (nI w421)), (11, .int (-1000001)), (10, .int (-1000002)), (9, .int (nI r3)), (0, .ref x), (1, .int u0), (2, .int v0), (3, .ref (x + 194)), (4, .ref (x + 195)), (5, .ref (x + 196)), (6, .ref (x + 197)), (7, .ref (x + 198)), (8, .ref (x + 199)), (13, .int (nI (zAbo y (nI w421) (k432 + 1)))), (14, .int (b2 (lSo y (k432 + 1) = true))), (15, .int (nI (k432 + 1)))]) (congrArg (fun q9 => ([(12, .int (nI w421)), (11, .int (-1000001)), (10, .int (-1000002)), (9, .int (nI r3)), (0, .ref x), (1, .int u0), (2, .int v0), (3, .ref (x + 194)), (4, .ref (x + 195)), (5, .ref (x + 196)), (6, .ref (x + 197)), (7, .ref (x + 198)), (8, .ref (x + 199)), (13, .int (nI (zAbo y (nI w421) (k432 + 1)))), (14, .int q9), (15, .int (nI (k432 + 1)))] : List (Nat × Value))) (show (1 : Int32) = b2 (lSo y (k432 + 1) = true) from by first | exact ab_1 cq453 cq465 | exact ab_0 (Or.inl cq453) | exact ab_0 (Or.inr cq465) | exact so_1 cq478 | exact so_2 cq491 | exact so_0 cq478 cq491)) ?_
                      exact ih432 (k432 + 1) (by omega) (by omega)
        refine G.castL (lv' := [(12, .int (nI w421)), (11, .int (-1000001)), (10, .int (-1000002)), (9, .int (nI r3)), (0, .ref x), (1, .int u0), (2, .int v0), (3, .ref (x + 194)), (4, .ref (x + 195)), (5, .ref (x + 196)), (6, .ref (x + 197)), (7, .ref (x + 198)), (8, .ref (x + 199)), (13, .int 0), (14, .int 0), (15, .int 0)]) [3, 4, 5, 6, 7, 8, 9, 10, 11, 12, 13, 14, 15, 2, 1, 0] rfl ?_
        refine G.lv0 (lv2 := [(12, .int (nI w421)), (11, .int (-1000001)), (10, .int (-1000002)), (9, .int (nI r3)), (0, .ref x), (1, .int u0), (2, .int v0), (3, .ref (x + 194)), (4, .ref (x + 195)), (5, .ref (x + 196)), (6, .ref (x + 197)), (7, .ref (x + 198)), (8, .ref (x + 199)), (13, .int (nI (zAbo y (nI w421) 0))), (14, .int 0), (15, .int 0)]) (congrArg (fun q9 => ([(12, .int (nI w421)), (11, .int (-1000001)), (10, .int (-1000002)), (9, .int (nI r3)), (0, .ref x), (1, .int u0), (2, .int v0), (3, .ref (x + 194)), (4, .ref (x + 195)), (5, .ref (x + 196)), (6, .ref (x + 197)), (7, .ref (x + 198)), (8, .ref (x + 199)), (13, .int q9), (14, .int 0), (15, .int 0)] : List (Nat × Value))) (show (0 : Int32) = nI (zAbo y (nI w421) 0) from by first | rfl | exact (b2_f (fun q => Bool.noConfusion q)).symm)) ?_
        refine G.lv0 (lv2 := [(12, .int (nI w421)), (11, .int (-1000001)), (10, .int (-1000002)), (9, .int (nI r3)), (0, .ref x), (1, .int u0), (2, .int v0), (3, .ref (x + 194)), (4, .ref (x + 195)), (5, .ref (x + 196)), (6, .ref (x + 197)), (7, .ref (x + 198)), (8, .ref (x + 199)), (13, .int (nI (zAbo y (nI w421) 0))), (14, .int (b2 (lSo y 0 = true))), (15, .int 0)]) (congrArg (fun q9 => ([(12, .int (nI w421)), (11, .int (-1000001)), (10, .int (-1000002)), (9, .int (nI r3)), (0, .ref x), (1, .int u0), (2, .int v0), (3, .ref (x + 194)), (4, .ref (x + 195)), (5, .ref (x + 196)), (6, .ref (x + 197)), (7, .ref (x + 198)), (8, .ref (x + 199)), (13, .int (nI (zAbo y (nI w421) 0))), (14, .int q9), (15, .int 0)] : List (Nat × Value))) (show (0 : Int32) = b2 (lSo y 0 = true) from by first | rfl | exact (b2_f (fun q => Bool.noConfusion q)).symm)) ?_
        refine G.lv0 (lv2 := [(12, .int (nI w421)), (11, .int (-1000001)), (10, .int (-1000002)), (9, .int (nI r3)), (0, .ref x), (1, .int u0), (2, .int v0), (3, .ref (x + 194)), (4, .ref (x + 195)), (5, .ref (x + 196)), (6, .ref (x + 197)), (7, .ref (x + 198)), (8, .ref (x + 199)), (13, .int (nI (zAbo y (nI w421) 0))), (14, .int (b2 (lSo y 0 = true))), (15, .int (nI 0))]) (congrArg (fun q9 => ([(12, .int (nI w421)), (11, .int (-1000001)), (10, .int (-1000002)), (9, .int (nI r3)), (0, .ref x), (1, .int u0), (2, .int v0), (3, .ref (x + 194)), (4, .ref (x + 195)), (5, .ref (x + 196)), (6, .ref (x + 197)), (7, .ref (x + 198)), (8, .ref (x + 199)), (13, .int (nI (zAbo y (nI w421) 0))), (14, .int (b2 (lSo y 0 = true))), (15, .int q9)] : List (Nat × Value))) (show (0 : Int32) = nI 0 from by first | rfl | exact (b2_f (fun q => Bool.noConfusion q)).symm)) ?_
        exact L432_9 (N + 1) 0 (by omega) (by omega)
    · skip
      have nq256 := Nat.not_le.mpr cq256
      refine G.iconst (pc := 259) cx dL_ship_259 (v := 1) (by decide) ?_
      refine G.iload_n (pc := 260) cx dL_ship_260 rfl 5 rfl ?_
      refine G.iload_n (pc := 261) cx dL_ship_261 rfl 5 rfl ?_
      refine G.bipush (pc := 262) cx dL_ship_262 (v := 9) (by decide) ?_
      refine G.ishr (pc := 264) cx dL_ship_264 ?_
      refine G.iconst (pc := 265) cx dL_ship_265 (v := 3) (by decide) ?_
      refine G.iand (pc := 266) cx dL_ship_266 ?_
      obtain ⟨mx277, hm277⟩ : ∃ q : Nat, q = (if ¬ ((v0 >>> (9 &&& 31)) &&& 3) = 0 then 12 else 99) ∧ 0 < q ∧ q ≤ 99 := ⟨_, rfl, by split <;> omega, by split <;> omega⟩
      have hma277 := hm277.2.1
      have hmb277 := hm277.2.2
      have J277_12 : G K p9 l e9 (rmL 7 0 0) s9 m9 a9 b9 t9 c9 (MQ b9 (QCp K (PoL K x V B) sz) a9 s9 0 0 (kA K)) 16 (xwL K x y s y V) sz 0 0 277 [(0, .ref x), (1, .int u0), (2, .int v0), (3, .ref (x + 194)), (4, .ref (x + 195)), (5, .ref (x + 196)), (6, .ref (x + 197)), (7, .ref (x + 198)), (8, .ref (x + 199)), (9, .int (nI r3)), (10, .int (-1000002)), (11, .int (-1000001))] [.int (nI mx277), .int v0, .int 1] := by
        obtain ⟨r277, hr277, hl277⟩ := k_low l K sz (xwL K x y s y V) v0 (n := mx277) (by omega) (by omega)
        refine G.callSg (pc := 277) (rest := [.int 1]) (st1 := [.int (nI r277), .int 1]) cx hl277 ok_L_low dL_ship_277 wm_ml_L_27 rfl rfl (Nat.le_of_ble_eq_true rfl) ⟨Nat.le_of_ble_eq_true rfl, Nat.le_of_ble_eq_true rfl⟩ ⟨Nat.le_of_ble_eq_true rfl, Nat.le_of_ble_eq_true rfl⟩ rfl ?_
        refine G.iaddN (pc := 280) cx dL_ship_280 1 r277 ?_
        refine G.istore (pc := 281) cx dL_ship_281 (by decide) rfl ?_
        refine G.aload_n (pc := 283) cx dL_ship_283 rfl 4 rfl ?_
        refine G.iconst (pc := 284) cx dL_ship_284 (v := 2) (by decide) ?_
        refine G.ialdV (pc := 285) cx dL_ship_285 xl_g (j := 2) rfl (by omega) (by decide) ((xr_g (n := 192) (by omega) (by omega)).trans (hD)) ?_
        refine G.iload (pc := 286) cx dL_ship_286 0 rfl ?_
        refine G.iaddN (pc := 288) cx dL_ship_288 D (1 + r277) ?_
        refine G.sipush (pc := 289) cx dL_ship_289 (v := 999) (by decide) ?_
        refine G.icmp_leN (pc := 292) cx (D + (1 + r277)) 999 (by omega) (by omega) dL_ship_292 (tgt := 323) (by decide) (fun cq292 => ?_) (fun cq292 => ?_)
        · skip
          have nq292 := Nat.not_lt.mpr cq292
          refine G.aload_n (pc := 323) cx dL_ship_323 rfl 4 rfl ?_
          refine G.iconst (pc := 324) cx dL_ship_324 (v := 2) (by decide) ?_
          refine G.dup2 (pc := 325) cx dL_ship_325 rfl rfl ?_
          refine G.ialdV (pc := 326) cx dL_ship_326 xl_g (j := 2) rfl (by omega) (by decide) ((xr_g (n := 192) (by omega) (by omega)).trans (hD)) ?_
          refine G.iload (pc := 327) cx dL_ship_327 0 rfl ?_
          refine G.iaddN (pc := 329) cx dL_ship_329 D (1 + r277) ?_
          refine G.iastC (pc := 330) cx dL_ship_330 xl_g (j := 2) rfl (by omega) (by decide) (xs_g (n := 192) (by omega) (by omega)) ?_
          refine G.iconst (pc := 331) cx dL_ship_331 (v := 0) (by decide) ?_
          refine G.istore (pc := 332) cx dL_ship_332 (by decide) rfl ?_
          have L334_13 : ∀ (fz k334 : Nat), N - k334 < fz → k334 ≤ N → G K p9 l e9 (rmL 7 0 0) s9 m9 a9 b9 t9 c9 (MQ b9 (QCp K (PoL K x V B) sz) a9 s9 0 0 (kA K)) 16 (xwL K x y s (zDayTo y (nI (1 + r277)) k334) V) sz 0 0 334 [(12, .int (nI (1 + r277))), (0, .ref x), (1, .int u0), (2, .int v0), (3, .ref (x + 194)), (4, .ref (x + 195)), (5, .ref (x + 196)), (6, .ref (x + 197)), (7, .ref (x + 198)), (8, .ref (x + 199)), (9, .int (nI r3)), (10, .int (-1000002)), (11, .int (-1000001)), (13, .int (nI k334))] [] := by
            intro fz
            induction fz with
            | zero => intro k334 h9; omega
            | succ fz ih334 =>
              intro k334 h9334 h8334
              refine G.iload (pc := 334) cx dL_ship_334 13 rfl ?_
              refine G.aload_n (pc := 336) cx dL_ship_336 rfl 4 rfl ?_
              refine G.iconst (pc := 337) cx dL_ship_337 (v := 4) (by decide) ?_
              refine G.ialdV (pc := 338) cx dL_ship_338 xl_g (j := 4) rfl (by omega) (by decide) ((xr_g (n := 194) (by omega) (by omega)).trans (((zDayTo_o _ _ (by omega) _ (fun q hq => by omega)).trans hN))) ?_
              refine G.icmp_geN (pc := 339) cx k334 N (by omega) (by omega) dL_ship_339 (tgt := 383) (by decide) (fun cq339 => ?_) (fun cq339 => ?_)
              · skip
                have nq339 := Nat.not_lt.mpr cq339
                have ex334 : k334 = N := by omega
                try rw [ex334]
                refine G.aload_n (pc := 383) cx dL_ship_383 rfl 1 rfl ?_
                refine G.iload (pc := 384) cx dL_ship_384 0 rfl ?_
                obtain ⟨s386, hs386, hc386, M386, hi386⟩ := k_yes (v := (zDayTo y (nI (1 + r277)) N) 192) (D2 := zDayTo y (nI (1 + r277)) N) (k_days (l := l) (K := K) (sz := sz) (x := x) (y := (zDayTo y (nI (1 + r277)) N)) (V := V) hI hS (nI (1 + r277))) (by exact yes_days hD hD9 (by omega) (by omega) (by omega)) (by exact (zDayTo_192 y _ N h16).symm) (by rfl)
                refine G.callVg (pc := 386) (rest := []) (st1 := [.int ((zDayTo y (nI (1 + r277)) N) 192)]) cx hc386 ok_X9_days dL_ship_386 wm_ml_L_78 rfl xw_o rfl (Nat.le_of_ble_eq_true rfl) ⟨Nat.le_of_ble_eq_true rfl, Nat.le_of_ble_eq_true rfl⟩ ⟨Nat.le_of_ble_eq_true rfl, Nat.le_of_ble_eq_true rfl⟩ rfl ?_
                refine G.aload_n (pc := 389) cx dL_ship_389 rfl 4 rfl ?_
                refine G.iconst (pc := 390) cx dL_ship_390 (v := 2) (by decide) ?_
                refine G.ialdV (pc := 391) cx dL_ship_391 xl_g (j := 2) rfl (by omega) (by decide) (xr_g (n := 192) (by omega) (by omega)) ?_
                refine G.icmp_ne (pc := 392) cx dL_ship_392 (tgt := 409) (by decide) (fun h9 => absurd rfl h9) (fun _ => ?_)
                refine G.aload_n (pc := 395) cx dL_ship_395 rfl 1 rfl ?_
                refine G.iconst (pc := 396) cx dL_ship_396 (v := 0) (by decide) ?_
                obtain ⟨s397, hs397, hc397⟩ := k_no (c := -1000001) (k_days (l := l) (K := K) (sz := sz) (x := x) (y := (zDayTo y (nI (1 + r277)) N)) (V := V) hi386 hs386 0) (by exact bad_days0 _) (by first | decide | (split <;> decide))
                refine G.callVg (pc := 397) (rest := []) (st1 := [.int (-1000001)]) cx hc397 ok_X9_days dL_ship_397 wm_ml_L_78 rfl xw_o rfl (Nat.le_of_ble_eq_true rfl) ⟨Nat.le_of_ble_eq_true rfl, Nat.le_of_ble_eq_true rfl⟩ ⟨Nat.le_of_ble_eq_true rfl, Nat.le_of_ble_eq_true rfl⟩ rfl ?_
                refine G.iload (pc := 400) cx dL_ship_400 12 rfl ?_
                refine G.icmp_ne (pc := 402) cx dL_ship_402 (tgt := 409) (by decide) (fun h9 => absurd rfl h9) (fun _ => ?_)
                refine G.iconst (pc := 405) cx dL_ship_405 (v := 1) (by decide) ?_
                refine G.goto (pc := 406) cx dL_ship_406 (tgt := 410) (by decide) ?_
                refine G.zretP (pc := 410) cx rfl dL_ship_410 rfl ?_
                exact ⟨rfl, _, _, _, rfl, hs397, hi386⟩
              · skip
                have nq339 := Nat.not_le.mpr cq339
                refine G.aload (pc := 342) cx dL_ship_342 6 rfl ?_
                refine G.iconst (pc := 344) cx dL_ship_344 (v := 4) (by decide) ?_
                refine G.iload (pc := 345) cx dL_ship_345 13 rfl ?_
                refine G.imulN (pc := 347) cx dL_ship_347 4 k334 ?_
                refine G.iconst (pc := 348) cx dL_ship_348 (v := 1) (by decide) ?_
                refine G.iaddN (pc := 349) cx dL_ship_349 (4 * k334) 1 ?_
                refine G.aload_n (pc := 350) cx dL_ship_350 rfl 4 rfl ?_
                refine G.iconst (pc := 351) cx dL_ship_351 (v := 1) (by decide) ?_
                refine G.ialdV (pc := 352) cx dL_ship_352 xl_g (j := 1) rfl (by omega) (by decide) ((xr_g (n := 191) (by omega) (by omega)).trans (((day_191 (by omega) _).trans hSe))) ?_
                refine G.isubN (pc := 353) cx dL_ship_353 ((4 * k334) + 1) S (by omega) ?_
                refine G.dup2 (pc := 354) cx dL_ship_354 rfl rfl ?_
                refine G.ialdV (pc := 355) cx dL_ship_355 xl_b (j := (((4 * k334) + 1) - S)) rfl (by omega) (by decide) (xr_b (n := 10 * k334 + (4 - S)) (by omega) (by omega)) ?_
                refine G.aload (pc := 356) cx dL_ship_356 5 rfl ?_
                refine G.iconst (pc := 358) cx dL_ship_358 (v := 3) (by decide) ?_
                refine G.iload (pc := 359) cx dL_ship_359 13 rfl ?_
                refine G.imulN (pc := 361) cx dL_ship_361 3 k334 ?_
                refine G.iconst (pc := 362) cx dL_ship_362 (v := 2) (by decide) ?_
                refine G.iaddN (pc := 363) cx dL_ship_363 (3 * k334) 2 ?_
                refine G.ialdV (pc := 364) cx dL_ship_364 xl_a (j := ((3 * k334) + 2)) rfl (by omega) (by decide) ((xr_a (n := 10 * k334 + 2) (by omega) (by omega)).trans ((day_2 (by omega) _ _))) ?_
                refine G.iconst (pc := 365) cx dL_ship_365 (v := 2) (by decide) ?_
                refine G.icmp_ge (pc := 366) cx dL_ship_366 (tgt := 374) (by decide) (fun cq366 => ?_) (fun cq366 => ?_)
                · skip
                  have nq366 := Int32.not_lt.mpr cq366
                  refine G.iconst (pc := 374) cx dL_ship_374 (v := 0) (by decide) ?_
                  refine G.iadd (pc := 375) cx dL_ship_375 ?_
                  refine G.iastC (pc := 376) cx dL_ship_376 xl_b (j := (((4 * k334) + 1) - S)) rfl (by omega) (by decide) (xs_b (n := 10 * k334 + (4 - S)) (by omega) (by omega)) ?_
                  refine G.iinc (pc := 377) cx dL_ship_377 (v := nI (k334 + 1)) (k := 13) rfl (nI_add k334 1) (by decide) rfl ?_
                  refine G.goto (pc := 380) cx dL_ship_380 (tgt := 334) (by decide) ?_
                  refine G.cast (V' := (xwL K x y s (zDayTo y (nI (1 + r277)) (k334 + 1)) V)) (congrArg (fun q9 => xwL K x y s q9 V) (show (upd (zDayTo y (nI (1 + r277)) k334) (10 * k334 + (4 - S)) (((zDayTo y (nI (1 + r277)) k334) (10 * k334 + (4 - S))) + 0)) = (zDayTo y (nI (1 + r277)) (k334 + 1)) from by first | exact day_1 hI (by omega) hSe hS1 _ nq366 | exact day_0 hI (by omega) _ _ nq366)) ?_
                  refine G.castL (lv' := [(12, .int (nI (1 + r277))), (0, .ref x), (1, .int u0), (2, .int v0), (3, .ref (x + 194)), (4, .ref (x + 195)), (5, .ref (x + 196)), (6, .ref (x + 197)), (7, .ref (x + 198)), (8, .ref (x + 199)), (9, .int (nI r3)), (10, .int (-1000002)), (11, .int (-1000001)), (13, .int (nI (k334 + 1)))]) [1, 2, 3, 4, 5, 6, 7, 8, 9, 10, 11, 12, 13, 0] rfl ?_
                  exact ih334 (k334 + 1) (by omega) (by omega)
                · skip
                  have nq366 := Int32.not_le.mp cq366
                  refine G.iload (pc := 369) cx dL_ship_369 0 rfl ?_
                  refine G.goto (pc := 371) cx dL_ship_371 (tgt := 375) (by decide) ?_
                  refine G.iadd (pc := 375) cx dL_ship_375 ?_
                  refine G.iastC (pc := 376) cx dL_ship_376 xl_b (j := (((4 * k334) + 1) - S)) rfl (by omega) (by decide) (xs_b (n := 10 * k334 + (4 - S)) (by omega) (by omega)) ?_
                  refine G.iinc (pc := 377) cx dL_ship_377 (v := nI (k334 + 1)) (k := 13) rfl (nI_add k334 1) (by decide) rfl ?_
                  refine G.goto (pc := 380) cx dL_ship_380 (tgt := 334) (by decide) ?_
                  refine G.cast (V' := (xwL K x y s (zDayTo y (nI (1 + r277)) (k334 + 1)) V)) (congrArg (fun q9 => xwL K x y s q9 V) (show (upd (zDayTo y (nI (1 + r277)) k334) (10 * k334 + (4 - S)) (((zDayTo y (nI (1 + r277)) k334) (10 * k334 + (4 - S))) + (nI (1 + r277)))) = (zDayTo y (nI (1 + r277)) (k334 + 1)) from by first | exact day_1 hI (by omega) hSe hS1 _ nq366 | exact day_0 hI (by omega) _ _ nq366)) ?_
                  refine G.castL (lv' := [(12, .int (nI (1 + r277))), (0, .ref x), (1, .int u0), (2, .int v0), (3, .ref (x + 194)), (4, .ref (x + 195)), (5, .ref (x + 196)), (6, .ref (x + 197)), (7, .ref (x + 198)), (8, .ref (x + 199)), (9, .int (nI r3)), (10, .int (-1000002)), (11, .int (-1000001)), (13, .int (nI (k334 + 1)))]) [1, 2, 3, 4, 5, 6, 7, 8, 9, 10, 11, 12, 13, 0] rfl ?_
                  exact ih334 (k334 + 1) (by omega) (by omega)
          refine G.cast (V' := (xwL K x y s (zDayTo y (nI (1 + r277)) 0) V)) (congrArg (fun q9 => xwL K x y s q9 V) (show (upd y 192 (nI (D + (1 + r277)))) = (zDayTo y (nI (1 + r277)) 0) from by first | rfl | exact day_s hD)) ?_
          refine G.castL (lv' := [(12, .int (nI (1 + r277))), (0, .ref x), (1, .int u0), (2, .int v0), (3, .ref (x + 194)), (4, .ref (x + 195)), (5, .ref (x + 196)), (6, .ref (x + 197)), (7, .ref (x + 198)), (8, .ref (x + 199)), (9, .int (nI r3)), (10, .int (-1000002)), (11, .int (-1000001)), (13, .int 0)]) [1, 2, 3, 4, 5, 6, 7, 8, 9, 10, 11, 12, 13, 0] rfl ?_
          refine G.lv0 (lv2 := [(12, .int (nI (1 + r277))), (0, .ref x), (1, .int u0), (2, .int v0), (3, .ref (x + 194)), (4, .ref (x + 195)), (5, .ref (x + 196)), (6, .ref (x + 197)), (7, .ref (x + 198)), (8, .ref (x + 199)), (9, .int (nI r3)), (10, .int (-1000002)), (11, .int (-1000001)), (13, .int (nI 0))]) (congrArg (fun q9 => ([(12, .int (nI (1 + r277))), (0, .ref x), (1, .int u0), (2, .int v0), (3, .ref (x + 194)), (4, .ref (x + 195)), (5, .ref (x + 196)), (6, .ref (x + 197)), (7, .ref (x + 198)), (8, .ref (x + 199)), (9, .int (nI r3)), (10, .int (-1000002)), (11, .int (-1000001)), (13, .int q9)] : List (Nat × Value))) (show (0 : Int32) = nI 0 from by first | rfl | exact day_s hD)) ?_
          exact L334_13 (N + 1) 0 (by omega) (by omega)
        · skip
          have nq292 := Nat.not_le.mpr cq292
          refine G.aload_n (pc := 295) cx dL_ship_295 rfl 1 rfl ?_
          refine G.iload (pc := 296) cx dL_ship_296 0 rfl ?_
          obtain ⟨s298, hs298, hc298⟩ := k_no (c := -1000003) (k_days (l := l) (K := K) (sz := sz) (x := x) (y := y) (V := V) hI hS (nI (1 + r277))) (by exact no_days hD hD9 (by omega) (by omega) (by omega)) (by first | decide | (split <;> decide))
          refine G.callVg (pc := 298) (rest := []) (st1 := [.int (-1000003)]) cx hc298 ok_X9_days dL_ship_298 wm_ml_L_78 rfl xw_o rfl (Nat.le_of_ble_eq_true rfl) ⟨Nat.le_of_ble_eq_true rfl, Nat.le_of_ble_eq_true rfl⟩ ⟨Nat.le_of_ble_eq_true rfl, Nat.le_of_ble_eq_true rfl⟩ rfl ?_
          refine G.ldc (pc := 301) cx dL_ship_301 (v := (-1000003)) wm_ct_L_38 ?_
          refine G.icmp_ne (pc := 303) cx dL_ship_303 (tgt := 321) (by decide) (fun h9 => absurd rfl h9) (fun _ => ?_)
          refine G.aload_n (pc := 306) cx dL_ship_306 rfl 1 rfl ?_
          refine G.bipush (pc := 307) cx dL_ship_307 (v := 100) (by decide) ?_
          obtain ⟨s309, hs309, hc309⟩ := k_no (c := -1000001) (k_days (l := l) (K := K) (sz := sz) (x := x) (y := y) (V := V) hI hs298 100) (by exact bad_days100 _) (by first | decide | (split <;> decide))
          refine G.callVg (pc := 309) (rest := []) (st1 := [.int (-1000001)]) cx hc309 ok_X9_days dL_ship_309 wm_ml_L_78 rfl xw_o rfl (Nat.le_of_ble_eq_true rfl) ⟨Nat.le_of_ble_eq_true rfl, Nat.le_of_ble_eq_true rfl⟩ ⟨Nat.le_of_ble_eq_true rfl, Nat.le_of_ble_eq_true rfl⟩ rfl ?_
          refine G.iload (pc := 312) cx dL_ship_312 12 rfl ?_
          refine G.icmp_ne (pc := 314) cx dL_ship_314 (tgt := 321) (by decide) (fun h9 => absurd rfl h9) (fun _ => ?_)
          refine G.iconst (pc := 317) cx dL_ship_317 (v := 1) (by decide) ?_
          refine G.goto (pc := 318) cx dL_ship_318 (tgt := 322) (by decide) ?_
          refine G.zretP (pc := 322) cx rfl dL_ship_322 rfl ?_
          exact ⟨rfl, _, _, _, rfl, hs309, hI.B (Nat.le_succ B)⟩
      refine G.if_ne (pc := 267) cx dL_ship_267 (tgt := 275) (by decide) (fun cq267 => ?_) (fun cq267 => ?_)
      · skip
        refine G.bipush (pc := 275) cx dL_ship_275 (v := 12) (by decide) ?_
        refine G.castS (st' := [.int (nI mx277), .int v0, .int 1]) (congrArg (fun q9 => ([.int q9, .int v0, .int 1] : List Value)) (show (12 : Int32) = nI mx277 from by first | exact (congrArg nI (hm277.1.trans (if_pos cq267))).symm | exact (congrArg nI (hm277.1.trans (if_neg (not_not_intro cq267)))).symm)) ?_
        refine G.castL (lv' := [(0, .ref x), (1, .int u0), (2, .int v0), (3, .ref (x + 194)), (4, .ref (x + 195)), (5, .ref (x + 196)), (6, .ref (x + 197)), (7, .ref (x + 198)), (8, .ref (x + 199)), (9, .int (nI r3)), (10, .int (-1000002)), (11, .int (-1000001))]) [3, 4, 5, 6, 7, 8, 9, 10, 11, 2, 1, 0] rfl ?_
        exact J277_12
      · skip
        refine G.bipush (pc := 270) cx dL_ship_270 (v := 99) (by decide) ?_
        refine G.goto (pc := 272) cx dL_ship_272 (tgt := 277) (by decide) ?_
        refine G.castS (st' := [.int (nI mx277), .int v0, .int 1]) (congrArg (fun q9 => ([.int q9, .int v0, .int 1] : List Value)) (show (99 : Int32) = nI mx277 from by first | exact (congrArg nI (hm277.1.trans (if_pos cq267))).symm | exact (congrArg nI (hm277.1.trans (if_neg (not_not_intro cq267)))).symm)) ?_
        refine G.castL (lv' := [(0, .ref x), (1, .int u0), (2, .int v0), (3, .ref (x + 194)), (4, .ref (x + 195)), (5, .ref (x + 196)), (6, .ref (x + 197)), (7, .ref (x + 198)), (8, .ref (x + 199)), (9, .int (nI r3)), (10, .int (-1000002)), (11, .int (-1000001))]) [3, 4, 5, 6, 7, 8, 9, 10, 11, 2, 1, 0] rfl ?_
        exact J277_12
  · skip
    have nq19 := Nat.not_le.mpr cq19
    refine G.iload_n (pc := 22) cx dL_ship_22 rfl 5 rfl ?_
    refine G.bipush (pc := 23) cx dL_ship_23 (v := 6) (by decide) ?_
    obtain ⟨r25, hr25, hl25⟩ := k_low l K sz (xwL K x y s y V) v0 (n := 6) (by omega) (by omega)
    refine G.callSg (pc := 25) (rest := []) (st1 := [.int (nI r25)]) cx hl25 ok_L_low dL_ship_25 wm_ml_L_27 rfl rfl (Nat.le_of_ble_eq_true rfl) ⟨Nat.le_of_ble_eq_true rfl, Nat.le_of_ble_eq_true rfl⟩ ⟨Nat.le_of_ble_eq_true rfl, Nat.le_of_ble_eq_true rfl⟩ rfl ?_
    refine G.istore (pc := 28) cx dL_ship_28 (by decide) rfl ?_
    refine G.iconst (pc := 30) cx dL_ship_30 (v := 1) (by decide) ?_
    refine G.iload_n (pc := 31) cx dL_ship_31 rfl 6 rfl ?_
    refine G.iconst (pc := 32) cx dL_ship_32 (v := 3) (by decide) ?_
    refine G.ishr (pc := 33) cx dL_ship_33 ?_
    refine G.bipush (pc := 34) cx dL_ship_34 (v := 99) (by decide) ?_
    obtain ⟨r36, hr36, hl36⟩ := k_low l K sz (xwL K x y s y V) (v0 >>> (3 &&& 31)) (n := 99) (by omega) (by omega)
    refine G.callSg (pc := 36) (rest := [.int 1]) (st1 := [.int (nI r36), .int 1]) cx hl36 ok_L_low dL_ship_36 wm_ml_L_27 rfl rfl (Nat.le_of_ble_eq_true rfl) ⟨Nat.le_of_ble_eq_true rfl, Nat.le_of_ble_eq_true rfl⟩ ⟨Nat.le_of_ble_eq_true rfl, Nat.le_of_ble_eq_true rfl⟩ rfl ?_
    refine G.iaddN (pc := 39) cx dL_ship_39 1 r36 ?_
    refine G.istore (pc := 40) cx dL_ship_40 (by decide) rfl ?_
    refine G.iconst (pc := 42) cx dL_ship_42 (v := 1) (by decide) ?_
    refine G.iload_n (pc := 43) cx dL_ship_43 rfl 7 rfl ?_
    refine G.bipush (pc := 44) cx dL_ship_44 (v := 10) (by decide) ?_
    refine G.ishr (pc := 46) cx dL_ship_46 ?_
    refine G.iload_n (pc := 47) cx dL_ship_47 rfl 7 rfl ?_
    refine G.bipush (pc := 48) cx dL_ship_48 (v := 18) (by decide) ?_
    refine G.ishr (pc := 50) cx dL_ship_50 ?_
    refine G.iconst (pc := 51) cx dL_ship_51 (v := 1) (by decide) ?_
    refine G.iand (pc := 52) cx dL_ship_52 ?_
    obtain ⟨mx63, hm63⟩ : ∃ q : Nat, q = (if ¬ ((v0 >>> (18 &&& 31)) &&& 1) = 0 then 99 else 8) ∧ 0 < q ∧ q ≤ 99 := ⟨_, rfl, by split <;> omega, by split <;> omega⟩
    have hma63 := hm63.2.1
    have hmb63 := hm63.2.2
    have J63_14 : G K p9 l e9 (rmL 7 0 0) s9 m9 a9 b9 t9 c9 (MQ b9 (QCp K (PoL K x V B) sz) a9 s9 0 0 (kA K)) 16 (xwL K x y s y V) sz 0 0 63 [(0, .ref x), (1, .int u0), (2, .int v0), (3, .ref (x + 194)), (4, .ref (x + 195)), (5, .ref (x + 196)), (6, .ref (x + 197)), (7, .ref (x + 198)), (8, .ref (x + 199)), (9, .int (nI r3)), (10, .int (-1000002)), (11, .int (-1000001)), (12, .int (nI r25)), (13, .int (nI (1 + r36)))] [.int (nI mx63), .int (v0 >>> (10 &&& 31)), .int 1] := by
      obtain ⟨r63, hr63, hl63⟩ := k_low l K sz (xwL K x y s y V) (v0 >>> (10 &&& 31)) (n := mx63) (by omega) (by omega)
      refine G.callSg (pc := 63) (rest := [.int 1]) (st1 := [.int (nI r63), .int 1]) cx hl63 ok_L_low dL_ship_63 wm_ml_L_27 rfl rfl (Nat.le_of_ble_eq_true rfl) ⟨Nat.le_of_ble_eq_true rfl, Nat.le_of_ble_eq_true rfl⟩ ⟨Nat.le_of_ble_eq_true rfl, Nat.le_of_ble_eq_true rfl⟩ rfl ?_
      refine G.iaddN (pc := 66) cx dL_ship_66 1 r63 ?_
      refine G.istore (pc := 67) cx dL_ship_67 (by decide) rfl ?_
      have J92_15 : (S = 1 ∨ 500 < y (160 + 5 * r25) + nI (1 + r36)) → G K p9 l e9 (rmL 7 0 0) s9 m9 a9 b9 t9 c9 (MQ b9 (QCp K (PoL K x V B) sz) a9 s9 0 0 (kA K)) 16 (xwL K x y s y V) sz 0 0 92 [(0, .ref x), (1, .int u0), (2, .int v0), (3, .ref (x + 194)), (4, .ref (x + 195)), (5, .ref (x + 196)), (6, .ref (x + 197)), (7, .ref (x + 198)), (8, .ref (x + 199)), (9, .int (nI r3)), (10, .int (-1000002)), (11, .int (-1000001)), (12, .int (nI r25)), (13, .int (nI (1 + r36))), (14, .int (nI (1 + r63)))] [] := by
        intro hor92
        refine G.aload_n (pc := 92) cx dL_ship_92 rfl 0 rfl ?_
        refine G.iload (pc := 93) cx dL_ship_93 12 rfl ?_
        refine G.iload (pc := 95) cx dL_ship_95 13 rfl ?_
        refine G.iload (pc := 97) cx dL_ship_97 14 rfl ?_
        obtain ⟨s99, hs99, hc99⟩ := k_no (c := if S = 1 then -1000002 else -1000003) (k_stock (l := l) (K := K) (sz := sz) (x := x) (y := y) (V := V) hI hS (nI r25) (nI (1 + r36)) (nI (1 + r63))) (by exact no_stock hSe hS1 (by omega) (by omega) (by omega) (by omega) (by omega) hor92) (by first | decide | (split <;> decide))
        refine G.callVg (pc := 99) (rest := []) (st1 := [.int (if S = 1 then -1000002 else -1000003)]) cx hc99 ok_X9_stock dL_ship_99 wm_ml_L_75 rfl xw_o rfl (Nat.le_of_ble_eq_true rfl) ⟨Nat.le_of_ble_eq_true rfl, Nat.le_of_ble_eq_true rfl⟩ ⟨Nat.le_of_ble_eq_true rfl, Nat.le_of_ble_eq_true rfl⟩ rfl ?_
        refine G.aload_n (pc := 102) cx dL_ship_102 rfl 3 rfl ?_
        refine G.iconst (pc := 103) cx dL_ship_103 (v := 1) (by decide) ?_
        refine G.ialdV (pc := 104) cx dL_ship_104 xl_g (j := 1) rfl (by omega) (by decide) ((xr_g (n := 191) (by omega) (by omega)).trans (hSe)) ?_
        refine G.iconst (pc := 105) cx dL_ship_105 (v := 1) (by decide) ?_
        refine G.icmp_neN (pc := 106) cx S 1 (by omega) (by omega) dL_ship_106 (tgt := 114) (by decide) (fun cq106 => ?_) (fun cq106 => ?_)
        · skip
          refine G.ldc (pc := 114) cx dL_ship_114 (v := (-1000003)) wm_ct_L_38 ?_
          refine G.icmp_ne (pc := 116) cx dL_ship_116 (tgt := 153) (by decide) (fun h9 => absurd (by first | exact if_pos cq106 | exact if_neg cq106) h9) (fun _ => ?_)
          refine G.aload_n (pc := 119) cx dL_ship_119 rfl 0 rfl ?_
          refine G.bipush (pc := 120) cx dL_ship_120 (v := 6) (by decide) ?_
          refine G.iload (pc := 122) cx dL_ship_122 13 rfl ?_
          refine G.iload (pc := 124) cx dL_ship_124 14 rfl ?_
          obtain ⟨s126, hs126, hc126⟩ := k_no (c := -1000001) (k_stock (l := l) (K := K) (sz := sz) (x := x) (y := y) (V := V) hI hs99 6 (nI (1 + r36)) (nI (1 + r63))) (by exact bad_stock6 _ _ _) (by first | decide | (split <;> decide))
          refine G.callVg (pc := 126) (rest := []) (st1 := [.int (-1000001)]) cx hc126 ok_X9_stock dL_ship_126 wm_ml_L_75 rfl xw_o rfl (Nat.le_of_ble_eq_true rfl) ⟨Nat.le_of_ble_eq_true rfl, Nat.le_of_ble_eq_true rfl⟩ ⟨Nat.le_of_ble_eq_true rfl, Nat.le_of_ble_eq_true rfl⟩ rfl ?_
          refine G.iload (pc := 129) cx dL_ship_129 11 rfl ?_
          refine G.icmp_ne (pc := 131) cx dL_ship_131 (tgt := 153) (by decide) (fun h9 => absurd rfl h9) (fun _ => ?_)
          refine G.aload_n (pc := 134) cx dL_ship_134 rfl 0 rfl ?_
          refine G.iload (pc := 135) cx dL_ship_135 12 rfl ?_
          refine G.iload (pc := 137) cx dL_ship_137 13 rfl ?_
          refine G.bipush (pc := 139) cx dL_ship_139 (v := 100) (by decide) ?_
          obtain ⟨s141, hs141, hc141⟩ := k_no (c := -1000001) (k_stock (l := l) (K := K) (sz := sz) (x := x) (y := y) (V := V) hI hs126 (nI r25) (nI (1 + r36)) 100) (by exact bad_stock100 _ _ _) (by first | decide | (split <;> decide))
          refine G.callVg (pc := 141) (rest := []) (st1 := [.int (-1000001)]) cx hc141 ok_X9_stock dL_ship_141 wm_ml_L_75 rfl xw_o rfl (Nat.le_of_ble_eq_true rfl) ⟨Nat.le_of_ble_eq_true rfl, Nat.le_of_ble_eq_true rfl⟩ ⟨Nat.le_of_ble_eq_true rfl, Nat.le_of_ble_eq_true rfl⟩ rfl ?_
          refine G.iload (pc := 144) cx dL_ship_144 11 rfl ?_
          refine G.icmp_ne (pc := 146) cx dL_ship_146 (tgt := 153) (by decide) (fun h9 => absurd rfl h9) (fun _ => ?_)
          refine G.iconst (pc := 149) cx dL_ship_149 (v := 1) (by decide) ?_
          refine G.goto (pc := 150) cx dL_ship_150 (tgt := 154) (by decide) ?_
          refine G.zretP (pc := 154) cx rfl dL_ship_154 rfl ?_
          exact ⟨rfl, _, _, _, rfl, hs141, hI.B (Nat.le_succ B)⟩
        · skip
          refine G.iload (pc := 109) cx dL_ship_109 10 rfl ?_
          refine G.goto (pc := 111) cx dL_ship_111 (tgt := 116) (by decide) ?_
          refine G.icmp_ne (pc := 116) cx dL_ship_116 (tgt := 153) (by decide) (fun h9 => absurd (by first | exact if_pos cq106 | exact if_neg cq106) h9) (fun _ => ?_)
          refine G.aload_n (pc := 119) cx dL_ship_119 rfl 0 rfl ?_
          refine G.bipush (pc := 120) cx dL_ship_120 (v := 6) (by decide) ?_
          refine G.iload (pc := 122) cx dL_ship_122 13 rfl ?_
          refine G.iload (pc := 124) cx dL_ship_124 14 rfl ?_
          obtain ⟨s126, hs126, hc126⟩ := k_no (c := -1000001) (k_stock (l := l) (K := K) (sz := sz) (x := x) (y := y) (V := V) hI hs99 6 (nI (1 + r36)) (nI (1 + r63))) (by exact bad_stock6 _ _ _) (by first | decide | (split <;> decide))
          refine G.callVg (pc := 126) (rest := []) (st1 := [.int (-1000001)]) cx hc126 ok_X9_stock dL_ship_126 wm_ml_L_75 rfl xw_o rfl (Nat.le_of_ble_eq_true rfl) ⟨Nat.le_of_ble_eq_true rfl, Nat.le_of_ble_eq_true rfl⟩ ⟨Nat.le_of_ble_eq_true rfl, Nat.le_of_ble_eq_true rfl⟩ rfl ?_
          refine G.iload (pc := 129) cx dL_ship_129 11 rfl ?_
          refine G.icmp_ne (pc := 131) cx dL_ship_131 (tgt := 153) (by decide) (fun h9 => absurd rfl h9) (fun _ => ?_)
          refine G.aload_n (pc := 134) cx dL_ship_134 rfl 0 rfl ?_
          refine G.iload (pc := 135) cx dL_ship_135 12 rfl ?_
          refine G.iload (pc := 137) cx dL_ship_137 13 rfl ?_
          refine G.bipush (pc := 139) cx dL_ship_139 (v := 100) (by decide) ?_
          obtain ⟨s141, hs141, hc141⟩ := k_no (c := -1000001) (k_stock (l := l) (K := K) (sz := sz) (x := x) (y := y) (V := V) hI hs126 (nI r25) (nI (1 + r36)) 100) (by exact bad_stock100 _ _ _) (by first | decide | (split <;> decide))
          refine G.callVg (pc := 141) (rest := []) (st1 := [.int (-1000001)]) cx hc141 ok_X9_stock dL_ship_141 wm_ml_L_75 rfl xw_o rfl (Nat.le_of_ble_eq_true rfl) ⟨Nat.le_of_ble_eq_true rfl, Nat.le_of_ble_eq_true rfl⟩ ⟨Nat.le_of_ble_eq_true rfl, Nat.le_of_ble_eq_true rfl⟩ rfl ?_
          refine G.iload (pc := 144) cx dL_ship_144 11 rfl ?_
          refine G.icmp_ne (pc := 146) cx dL_ship_146 (tgt := 153) (by decide) (fun h9 => absurd rfl h9) (fun _ => ?_)
          refine G.iconst (pc := 149) cx dL_ship_149 (v := 1) (by decide) ?_
          refine G.goto (pc := 150) cx dL_ship_150 (tgt := 154) (by decide) ?_
          refine G.zretP (pc := 154) cx rfl dL_ship_154 rfl ?_
          exact ⟨rfl, _, _, _, rfl, hs141, hI.B (Nat.le_succ B)⟩
      refine G.aload_n (pc := 69) cx dL_ship_69 rfl 4 rfl ?_
      refine G.iconst (pc := 70) cx dL_ship_70 (v := 1) (by decide) ?_
      refine G.ialdV (pc := 71) cx dL_ship_71 xl_g (j := 1) rfl (by omega) (by decide) ((xr_g (n := 191) (by omega) (by omega)).trans (hSe)) ?_
      refine G.iconst (pc := 72) cx dL_ship_72 (v := 1) (by decide) ?_
      refine G.icmp_eqN (pc := 73) cx S 1 (by omega) (by omega) dL_ship_73 (tgt := 92) (by decide) (fun cq73 => ?_) (fun cq73 => ?_)
      · skip
        refine G.castL (lv' := [(0, .ref x), (1, .int u0), (2, .int v0), (3, .ref (x + 194)), (4, .ref (x + 195)), (5, .ref (x + 196)), (6, .ref (x + 197)), (7, .ref (x + 198)), (8, .ref (x + 199)), (9, .int (nI r3)), (10, .int (-1000002)), (11, .int (-1000001)), (12, .int (nI r25)), (13, .int (nI (1 + r36))), (14, .int (nI (1 + r63)))]) [1, 2, 3, 4, 5, 6, 7, 8, 9, 10, 11, 12, 13, 14, 0] rfl ?_
        exact J92_15 (by first | exact Or.inl cq73 | exact Or.inr nq89)
      · skip
        refine G.aload (pc := 76) cx dL_ship_76 8 rfl ?_
        refine G.iconst (pc := 78) cx dL_ship_78 (v := 5) (by decide) ?_
        refine G.iload (pc := 79) cx dL_ship_79 13 rfl ?_
        refine G.imulN (pc := 81) cx dL_ship_81 5 r25 ?_
        refine G.ialdV (pc := 82) cx dL_ship_82 xl_t (j := (5 * r25)) rfl (by omega) (by decide) (xr_t (n := 160 + 5 * r25) (by omega) (by omega)) ?_
        refine G.iload (pc := 83) cx dL_ship_83 14 rfl ?_
        refine G.iadd (pc := 85) cx dL_ship_85 ?_
        refine G.sipush (pc := 86) cx dL_ship_86 (v := 500) (by decide) ?_
        refine G.icmp_le (pc := 89) cx dL_ship_89 (tgt := 155) (by decide) (fun cq89 => ?_) (fun cq89 => ?_)
        · skip
          have nq89 := Int32.not_lt.mpr cq89
          refine G.aload (pc := 155) cx dL_ship_155 8 rfl ?_
          refine G.iconst (pc := 157) cx dL_ship_157 (v := 5) (by decide) ?_
          refine G.iload (pc := 158) cx dL_ship_158 13 rfl ?_
          refine G.imulN (pc := 160) cx dL_ship_160 5 r25 ?_
          refine G.dup2 (pc := 161) cx dL_ship_161 rfl rfl ?_
          refine G.ialdV (pc := 162) cx dL_ship_162 xl_t (j := (5 * r25)) rfl (by omega) (by decide) (xr_t (n := 160 + 5 * r25) (by omega) (by omega)) ?_
          refine G.iload (pc := 163) cx dL_ship_163 14 rfl ?_
          refine G.iadd (pc := 165) cx dL_ship_165 ?_
          refine G.iastC (pc := 166) cx dL_ship_166 xl_t (j := (5 * r25)) rfl (by omega) (by decide) (xs_t (n := 160 + 5 * r25) (by omega) (by omega)) ?_
          refine G.aload (pc := 167) cx dL_ship_167 8 rfl ?_
          refine G.iconst (pc := 169) cx dL_ship_169 (v := 5) (by decide) ?_
          refine G.iload (pc := 170) cx dL_ship_170 13 rfl ?_
          refine G.imulN (pc := 172) cx dL_ship_172 5 r25 ?_
          refine G.iconst (pc := 173) cx dL_ship_173 (v := 1) (by decide) ?_
          refine G.iaddN (pc := 174) cx dL_ship_174 (5 * r25) 1 ?_
          refine G.iload (pc := 175) cx dL_ship_175 0 rfl ?_
          refine G.iload (pc := 177) cx dL_ship_177 0 rfl ?_
          refine G.aload_n (pc := 179) cx dL_ship_179 rfl 4 rfl ?_
          refine G.bipush (pc := 180) cx dL_ship_180 (v := 14) (by decide) ?_
          refine G.ialdV (pc := 182) cx dL_ship_182 xl_g (j := 14) rfl (by omega) (by decide) ((xr_g (n := 204) (by omega) (by omega)).trans (upd_n (i := 160 + 5 * r25) (j := 204) y ((y (160 + 5 * r25)) + (nI (1 + r36))) (by omega))) ?_
          refine G.imul (pc := 183) cx dL_ship_183 ?_
          refine G.bipush (pc := 184) cx dL_ship_184 (v := 100) (by decide) ?_
          refine G.idiv (pc := 186) cx dL_ship_186 (by decide) ?_
          refine G.iadd (pc := 187) cx dL_ship_187 ?_
          refine G.iastC (pc := 188) cx dL_ship_188 xl_t (j := ((5 * r25) + 1)) rfl (by omega) (by decide) (xs_t (n := 160 + 5 * r25 + 1) (by omega) (by omega)) ?_
          refine G.aload (pc := 189) cx dL_ship_189 8 rfl ?_
          refine G.iconst (pc := 191) cx dL_ship_191 (v := 5) (by decide) ?_
          refine G.iload (pc := 192) cx dL_ship_192 13 rfl ?_
          refine G.imulN (pc := 194) cx dL_ship_194 5 r25 ?_
          refine G.iconst (pc := 195) cx dL_ship_195 (v := 2) (by decide) ?_
          refine G.iaddN (pc := 196) cx dL_ship_196 (5 * r25) 2 ?_
          refine G.dup2 (pc := 197) cx dL_ship_197 rfl rfl ?_
          refine G.ialdV (pc := 198) cx dL_ship_198 xl_t (j := ((5 * r25) + 2)) rfl (by omega) (by decide) ((xr_t (n := 160 + 5 * r25 + 2) (by omega) (by omega)).trans ((upd_n (i := 160 + 5 * r25 + 1) (j := 160 + 5 * r25 + 2) (upd y (160 + 5 * r25) ((y (160 + 5 * r25)) + (nI (1 + r36)))) ((nI (1 + r63)) + (((nI (1 + r63)) * (y 204)) / 100)) (by omega)).trans (upd_n (i := 160 + 5 * r25) (j := 160 + 5 * r25 + 2) y ((y (160 + 5 * r25)) + (nI (1 + r36))) (by omega)))) ?_
          refine G.iload (pc := 199) cx dL_ship_199 14 rfl ?_
          refine G.iadd (pc := 201) cx dL_ship_201 ?_
          refine G.iastC (pc := 202) cx dL_ship_202 xl_t (j := ((5 * r25) + 2)) rfl (by omega) (by decide) (xs_t (n := 160 + 5 * r25 + 2) (by omega) (by omega)) ?_
          refine G.aload_n (pc := 203) cx dL_ship_203 rfl 4 rfl ?_
          refine G.bipush (pc := 204) cx dL_ship_204 (v := 7) (by decide) ?_
          refine G.dup2 (pc := 206) cx dL_ship_206 rfl rfl ?_
          refine G.ialdV (pc := 207) cx dL_ship_207 xl_g (j := 7) rfl (by omega) (by decide) ((xr_g (n := 197) (by omega) (by omega)).trans ((upd_n (i := 160 + 5 * r25 + 2) (j := 197) (upd (upd y (160 + 5 * r25) ((y (160 + 5 * r25)) + (nI (1 + r36)))) (160 + 5 * r25 + 1) ((nI (1 + r63)) + (((nI (1 + r63)) * (y 204)) / 100))) ((y (160 + 5 * r25 + 2)) + (nI (1 + r36))) (by omega)).trans ((upd_n (i := 160 + 5 * r25 + 1) (j := 197) (upd y (160 + 5 * r25) ((y (160 + 5 * r25)) + (nI (1 + r36)))) ((nI (1 + r63)) + (((nI (1 + r63)) * (y 204)) / 100)) (by omega)).trans (upd_n (i := 160 + 5 * r25) (j := 197) y ((y (160 + 5 * r25)) + (nI (1 + r36))) (by omega))))) ?_
          refine G.iload (pc := 208) cx dL_ship_208 14 rfl ?_
          refine G.iload (pc := 210) cx dL_ship_210 0 rfl ?_
          refine G.imul (pc := 212) cx dL_ship_212 ?_
          refine G.iadd (pc := 213) cx dL_ship_213 ?_
          refine G.iastC (pc := 214) cx dL_ship_214 xl_g (j := 7) rfl (by omega) (by decide) (xs_g (n := 197) (by omega) (by omega)) ?_
          refine G.aload_n (pc := 215) cx dL_ship_215 rfl 4 rfl ?_
          refine G.iload (pc := 216) cx dL_ship_216 14 rfl ?_
          refine G.iload (pc := 218) cx dL_ship_218 0 rfl ?_
          refine G.imul (pc := 220) cx dL_ship_220 ?_
          refine G.callSg (pc := 221) (rest := []) (st1 := []) cx (c_L_spend l K sz x y s (upd (upd (upd (upd y (160 + 5 * r25) ((y (160 + 5 * r25)) + (nI (1 + r36)))) (160 + 5 * r25 + 1) ((nI (1 + r63)) + (((nI (1 + r63)) * (y 204)) / 100))) (160 + 5 * r25 + 2) ((y (160 + 5 * r25 + 2)) + (nI (1 + r36)))) 197 ((y 197) + ((nI (1 + r36)) * (nI (1 + r63))))) V ((nI (1 + r36)) * (nI (1 + r63)))) ok_L_spend dL_ship_221 wm_ml_L_19 rfl rfl (Nat.le_of_ble_eq_true rfl) ⟨Nat.le_of_ble_eq_true rfl, Nat.le_of_ble_eq_true rfl⟩ ⟨Nat.le_of_ble_eq_true rfl, Nat.le_of_ble_eq_true rfl⟩ rfl ?_
          refine G.aload_n (pc := 224) cx dL_ship_224 rfl 1 rfl ?_
          refine G.iload (pc := 225) cx dL_ship_225 13 rfl ?_
          refine G.iload (pc := 227) cx dL_ship_227 14 rfl ?_
          refine G.iload (pc := 229) cx dL_ship_229 0 rfl ?_
          obtain ⟨s231, hs231, hc231, M231, hi231⟩ := k_yes (v := (zSpend (upd (upd (upd (upd y (160 + 5 * r25) ((y (160 + 5 * r25)) + (nI (1 + r36)))) (160 + 5 * r25 + 1) ((nI (1 + r63)) + (((nI (1 + r63)) * (y 204)) / 100))) (160 + 5 * r25 + 2) ((y (160 + 5 * r25 + 2)) + (nI (1 + r36)))) 197 ((y 197) + ((nI (1 + r36)) * (nI (1 + r63))))) ((nI (1 + r36)) * (nI (1 + r63)))) (160 + 5 * r25 + 1)) (D2 := zSpend (upd (upd (upd (upd y (160 + 5 * r25) ((y (160 + 5 * r25)) + (nI (1 + r36)))) (160 + 5 * r25 + 1) ((nI (1 + r63)) + (((nI (1 + r63)) * (y 204)) / 100))) (160 + 5 * r25 + 2) ((y (160 + 5 * r25 + 2)) + (nI (1 + r36)))) 197 ((y 197) + ((nI (1 + r36)) * (nI (1 + r63))))) ((nI (1 + r36)) * (nI (1 + r63)))) (k_stock (l := l) (K := K) (sz := sz) (x := x) (y := (zSpend (upd (upd (upd (upd y (160 + 5 * r25) ((y (160 + 5 * r25)) + (nI (1 + r36)))) (160 + 5 * r25 + 1) ((nI (1 + r63)) + (((nI (1 + r63)) * (y 204)) / 100))) (160 + 5 * r25 + 2) ((y (160 + 5 * r25 + 2)) + (nI (1 + r36)))) 197 ((y 197) + ((nI (1 + r36)) * (nI (1 + r63))))) ((nI (1 + r36)) * (nI (1 + r63))))) (V := V) hI hS (nI r25) (nI (1 + r36)) (nI (1 + r63))) (by exact yes_stock hSe hS1 (by omega) (by omega) (by omega) (by omega) (by omega) cq73 nq89) (by rw [zSpend_o _ _ (by omega) (by omega), upd_n _ _ (by omega), upd_n _ _ (by omega), upd_s]; rfl) (by exact do_stock (by omega) _ _)
          refine G.callVg (pc := 231) (rest := []) (st1 := [.int ((zSpend (upd (upd (upd (upd y (160 + 5 * r25) ((y (160 + 5 * r25)) + (nI (1 + r36)))) (160 + 5 * r25 + 1) ((nI (1 + r63)) + (((nI (1 + r63)) * (y 204)) / 100))) (160 + 5 * r25 + 2) ((y (160 + 5 * r25 + 2)) + (nI (1 + r36)))) 197 ((y 197) + ((nI (1 + r36)) * (nI (1 + r63))))) ((nI (1 + r36)) * (nI (1 + r63)))) (160 + 5 * r25 + 1))]) cx hc231 ok_X9_stock dL_ship_231 wm_ml_L_75 rfl xw_o rfl (Nat.le_of_ble_eq_true rfl) ⟨Nat.le_of_ble_eq_true rfl, Nat.le_of_ble_eq_true rfl⟩ ⟨Nat.le_of_ble_eq_true rfl, Nat.le_of_ble_eq_true rfl⟩ rfl ?_
          refine G.aload (pc := 234) cx dL_ship_234 8 rfl ?_
          refine G.iconst (pc := 236) cx dL_ship_236 (v := 5) (by decide) ?_
          refine G.iload (pc := 237) cx dL_ship_237 13 rfl ?_
          refine G.imulN (pc := 239) cx dL_ship_239 5 r25 ?_
          refine G.iconst (pc := 240) cx dL_ship_240 (v := 1) (by decide) ?_
          refine G.iaddN (pc := 241) cx dL_ship_241 (5 * r25) 1 ?_
          refine G.ialdV (pc := 242) cx dL_ship_242 xl_t (j := ((5 * r25) + 1)) rfl (by omega) (by decide) (xr_t (n := 160 + 5 * r25 + 1) (by omega) (by omega)) ?_
          refine G.icmp_ne (pc := 243) cx dL_ship_243 (tgt := 250) (by decide) (fun h9 => absurd rfl h9) (fun _ => ?_)
          refine G.iconst (pc := 246) cx dL_ship_246 (v := 1) (by decide) ?_
          refine G.goto (pc := 247) cx dL_ship_247 (tgt := 251) (by decide) ?_
          refine G.zretP (pc := 251) cx rfl dL_ship_251 rfl ?_
          exact ⟨rfl, _, _, _, rfl, hs231, hi231⟩
        · skip
          have nq89 := Int32.not_le.mp cq89
          refine G.castL (lv' := [(0, .ref x), (1, .int u0), (2, .int v0), (3, .ref (x + 194)), (4, .ref (x + 195)), (5, .ref (x + 196)), (6, .ref (x + 197)), (7, .ref (x + 198)), (8, .ref (x + 199)), (9, .int (nI r3)), (10, .int (-1000002)), (11, .int (-1000001)), (12, .int (nI r25)), (13, .int (nI (1 + r36))), (14, .int (nI (1 + r63)))]) [1, 2, 3, 4, 5, 6, 7, 8, 9, 10, 11, 12, 13, 14, 0] rfl ?_
          exact J92_15 (by first | exact Or.inl cq73 | exact Or.inr nq89)
    refine G.if_ne (pc := 53) cx dL_ship_53 (tgt := 61) (by decide) (fun cq53 => ?_) (fun cq53 => ?_)
    · skip
      refine G.bipush (pc := 61) cx dL_ship_61 (v := 99) (by decide) ?_
      refine G.castS (st' := [.int (nI mx63), .int (v0 >>> (10 &&& 31)), .int 1]) (congrArg (fun q9 => ([.int q9, .int (v0 >>> (10 &&& 31)), .int 1] : List Value)) (show (99 : Int32) = nI mx63 from by first | exact (congrArg nI (hm63.1.trans (if_pos cq53))).symm | exact (congrArg nI (hm63.1.trans (if_neg (not_not_intro cq53)))).symm)) ?_
      refine G.castL (lv' := [(0, .ref x), (1, .int u0), (2, .int v0), (3, .ref (x + 194)), (4, .ref (x + 195)), (5, .ref (x + 196)), (6, .ref (x + 197)), (7, .ref (x + 198)), (8, .ref (x + 199)), (9, .int (nI r3)), (10, .int (-1000002)), (11, .int (-1000001)), (12, .int (nI r25)), (13, .int (nI (1 + r36)))]) [5, 6, 7, 8, 9, 10, 11, 12, 13, 4, 3, 2, 1, 0] rfl ?_
      exact J63_14
    · skip
      refine G.bipush (pc := 56) cx dL_ship_56 (v := 8) (by decide) ?_
      refine G.goto (pc := 58) cx dL_ship_58 (tgt := 63) (by decide) ?_
      refine G.castS (st' := [.int (nI mx63), .int (v0 >>> (10 &&& 31)), .int 1]) (congrArg (fun q9 => ([.int q9, .int (v0 >>> (10 &&& 31)), .int 1] : List Value)) (show (8 : Int32) = nI mx63 from by first | exact (congrArg nI (hm63.1.trans (if_pos cq53))).symm | exact (congrArg nI (hm63.1.trans (if_neg (not_not_intro cq53)))).symm)) ?_
      refine G.castL (lv' := [(0, .ref x), (1, .int u0), (2, .int v0), (3, .ref (x + 194)), (4, .ref (x + 195)), (5, .ref (x + 196)), (6, .ref (x + 197)), (7, .ref (x + 198)), (8, .ref (x + 199)), (9, .int (nI r3)), (10, .int (-1000002)), (11, .int (-1000001)), (12, .int (nI r25)), (13, .int (nI (1 + r36)))]) [5, 6, 7, 8, 9, 10, 11, 12, 13, 4, 3, 2, 1, 0] rfl ?_
      exact J63_14
