/-! ALL SAILORS ARE AS THE LAW'S NUMBERS SAY -/
section AS
variable {B N k j : Nat} {y : Zt}
theorem as_th0 (h : y (10 * k + 2) = 2) : nI (zTh y k) = nI (zTh y (k + 1)) := by
  simp only [zTh]; rw [if_pos h]; rfl
theorem as_e0 (h : y (10 * k + 2) = 2) : rEs y k = rEs y (k + 1) := by
  simp only [rEs]; rw [if_pos h]; exact (Int32.add_zero _).symm
theorem as_c0 (h : y (10 * k + 2) = 2) : rCs y k = rCs y (k + 1) := by
  simp only [rCs]; rw [if_pos h]; exact (Int32.add_zero _).symm
theorem as_p0 (h : y (10 * k + 2) = 2) : zPaid y k = zPaid y (k + 1) := by
  simp only [zPaid]; rw [bal_gone h, if_neg (by decide)]; exact (Int32.add_zero _).symm
theorem as_d0 (h : y (10 * k + 2) = 2) : zDebt y k = zDebt y (k + 1) := by
  simp only [zDebt]; rw [bal_gone h, if_neg (by decide)]; exact (Int32.sub_zero _).symm
theorem as_s0 (h : y (10 * k + 2) = 2) : zDSet y k = zDSet y (k + 1) := by
  simp only [zDSet]; rw [bal_gone h, if_neg (by decide)]; exact (Int32.or_zero).symm
theorem as_th1 (h : ¬ y (10 * k + 2) = 2) : nI (zTh y k + 1) = nI (zTh y (k + 1)) := by
  simp only [zTh]; rw [if_neg h]
theorem as_e1 (h : ¬ y (10 * k + 2) = 2) : rEs y k + zEarn y k = rEs y (k + 1) := by
  simp only [rEs]; rw [if_neg h]
theorem as_c1 (h : ¬ y (10 * k + 2) = 2) : rCs y k + (y (10 * k + 5) + y (10 * k + 6) + y (10 * k + 7)) = rCs y (k + 1) := by
  simp only [rCs]; rw [if_neg h]; rfl
theorem as_p1 (y : Zt) (k : Nat) : zPaid y k + (if 0 < zBal y k then zBal y k else 0) = zPaid y (k + 1) := by simp only [zPaid]
theorem as_d1 (y : Zt) (k : Nat) : zDebt y k + (if zBal y k < 0 then -(zBal y k) else 0) = zDebt y (k + 1) := by
  simp only [zDebt]
  by_cases h : zBal y k < 0
  · rw [if_pos h, if_pos h]; grind
  · rw [if_neg h, if_neg h]; grind
theorem as_s1 (y : Zt) (k : Nat) : zDSet y k ||| (if zBal y k < 0 then 1 <<< (nI k &&& 31) else 0) = zDSet y (k + 1) := by simp only [zDSet]
theorem as_a1 (hI : INV B N y) (hj : j < N) (h : y (10 * j + 2) < 2) (h2 : zBal y j < zBal y k ∨ zBal y j = zBal y k ∧ j < k) : nI (zAhead y k j + 1) = nI (zAhead y k (j + 1)) := by
  simp only [zAhead]; rw [if_pos ⟨(wh_lt hI hj).mp h, h2⟩]
theorem as_a0a (hI : INV B N y) (hj : j < N) (h : ¬ y (10 * j + 2) < 2) : nI (zAhead y k j + 0) = nI (zAhead y k (j + 1)) := by
  simp only [zAhead]; rw [if_neg (fun q => h ((wh_lt hI hj).mpr q.1))]
theorem as_a0b (h : ¬ zBal y j < zBal y k) (h2 : ¬ zBal y j = zBal y k) : nI (zAhead y k j + 0) = nI (zAhead y k (j + 1)) := by
  simp only [zAhead]; rw [if_neg (fun q => q.2.elim h (fun g => h2 g.1))]
theorem as_a0c (h : ¬ zBal y j < zBal y k) (h2 : ¬ j < k) : nI (zAhead y k j + 0) = nI (zAhead y k (j + 1)) := by
  simp only [zAhead]; rw [if_neg (fun q => q.2.elim h (fun g => h2 g.2))]
end AS
set_option maxHeartbeats 4000000 in
set_option maxRecDepth 100000 in
theorem c_L_areSailors (l : Launch) (K : KT) (sz : Nat) (x : Nat) (s : Ot) (y : Zt) (V : VW) (B : Nat) (N : Nat) (D : Nat) (hI : INV B N y) (hN : y 194 = nI N) (h16 : N ≤ 16) (hD : y 192 = nI D) (hD9 : D ≤ 999) : Ct l K yL_areSailors cL_areSailors 17 (some .boolean) 7 [.ref x, .ref (x + 194), .ref (x + 195), .ref (x + 196), .ref (x + 197), .ref (x + 198)] (xwL K x y s y V) sz (some (.int 1)) (xwL K x y s y V) sz 0 0 := by
  refine Ct.ofG (by decide) (Nat.le_of_ble_eq_true rfl) ?_
  intro p9 e9 s9 m9 a9 b9 t9 c9 cx hin9
  refine G.lv0 (lv2 := [(0, .ref x), (1, .ref (x + 194)), (2, .ref (x + 195)), (3, .ref (x + 196)), (4, .ref (x + 197)), (5, .ref (x + 198))]) rfl ?_
  refine G.iconst (pc := 0) cx dL_areSailors_0 (v := 0) (by decide) ?_
  refine G.istore (pc := 1) cx dL_areSailors_1 (by decide) rfl ?_
  refine G.iconst (pc := 3) cx dL_areSailors_3 (v := 0) (by decide) ?_
  refine G.istore (pc := 4) cx dL_areSailors_4 (by decide) rfl ?_
  refine G.iconst (pc := 6) cx dL_areSailors_6 (v := 0) (by decide) ?_
  refine G.istore (pc := 7) cx dL_areSailors_7 (by decide) rfl ?_
  refine G.iconst (pc := 9) cx dL_areSailors_9 (v := 0) (by decide) ?_
  refine G.istore (pc := 10) cx dL_areSailors_10 (by decide) rfl ?_
  refine G.iconst (pc := 12) cx dL_areSailors_12 (v := 0) (by decide) ?_
  refine G.istore (pc := 13) cx dL_areSailors_13 (by decide) rfl ?_
  refine G.iconst (pc := 15) cx dL_areSailors_15 (v := 0) (by decide) ?_
  refine G.istore (pc := 16) cx dL_areSailors_16 (by decide) rfl ?_
  refine G.iconst (pc := 18) cx dL_areSailors_18 (v := 0) (by decide) ?_
  refine G.istore (pc := 19) cx dL_areSailors_19 (by decide) rfl ?_
  have L21_1 : ∀ (fz k21 : Nat), N - k21 < fz → k21 ≤ N → G K p9 l e9 (rmL 7 0 0) s9 m9 a9 b9 t9 c9 (MQ b9 (QCt K (some (.int 1)) (xwL K x y s y V) sz) a9 s9 0 0 (kA K)) 17 (xwL K x y s y V) sz 0 0 21 [(0, .ref x), (1, .ref (x + 194)), (2, .ref (x + 195)), (3, .ref (x + 196)), (4, .ref (x + 197)), (5, .ref (x + 198)), (6, .int (nI (zTh y k21))), (7, .int (rEs y k21)), (8, .int (rCs y k21)), (9, .int (zPaid y k21)), (10, .int (zDebt y k21)), (11, .int (zDSet y k21)), (12, .int (nI k21))] [] := by
    intro fz
    induction fz with
    | zero => intro k21 h9; omega
    | succ fz ih21 =>
      intro k21 h921 h821
      refine G.iload (pc := 21) cx dL_areSailors_21 12 rfl ?_
      refine G.aload_n (pc := 23) cx dL_areSailors_23 rfl 1 rfl ?_
      refine G.iconst (pc := 24) cx dL_areSailors_24 (v := 4) (by decide) ?_
      refine G.ialdV (pc := 25) cx dL_areSailors_25 xl_g (j := 4) rfl (by omega) (by decide) ((xr_g (n := 194) (by omega) (by omega)).trans (hN)) ?_
      refine G.icmp_geN (pc := 26) cx k21 N (by omega) (by omega) dL_areSailors_26 (tgt := 499) (by decide) (fun cq26 => ?_) (fun cq26 => ?_)
      · skip
        have nq26 := Nat.not_lt.mpr cq26
        have ex21 : k21 = N := by omega
        try rw [ex21]
        obtain ⟨e0, c0, he0, hc0, eE, eC, hsh⟩ := k_share (l := l) (K := K) (sz := sz) (x := x) (z := y) (y := y) (s := s) (V := V) hI
        refine G.lv0 (lv2 := [(0, .ref x), (1, .ref (x + 194)), (2, .ref (x + 195)), (3, .ref (x + 196)), (4, .ref (x + 197)), (5, .ref (x + 198)), (6, .int (nI (zTh y N))), (7, .int (nI e0)), (8, .int (nI c0)), (9, .int (zPaid y N)), (10, .int (zDebt y N)), (11, .int (zDSet y N)), (12, .int (nI N))]) (by rw [eE, eC]) ?_
        refine G.aload_n (pc := 499) cx dL_areSailors_499 rfl 0 rfl ?_
        refine G.callVg (pc := 500) (rest := []) (st1 := [.int (shA c0 e0)]) cx hsh ok_X9_share dL_areSailors_500 wm_ml_L_110 rfl xw_o rfl (Nat.le_of_ble_eq_true rfl) ⟨Nat.le_of_ble_eq_true rfl, Nat.le_of_ble_eq_true rfl⟩ ⟨Nat.le_of_ble_eq_true rfl, Nat.le_of_ble_eq_true rfl⟩ rfl ?_
        refine G.iload (pc := 503) cx dL_areSailors_503 7 rfl ?_
        refine G.if_neN (pc := 505) cx e0 (by omega) dL_areSailors_505 (tgt := 513) (by decide) (fun cq505 => ?_) (fun cq505 => ?_)
        · skip
          refine G.iload (pc := 513) cx dL_areSailors_513 8 rfl ?_
          refine G.iload (pc := 515) cx dL_areSailors_515 7 rfl ?_
          refine G.callSg (pc := 517) (rest := [.int (shA c0 e0)]) (st1 := [.int (shA c0 e0), .int (shA c0 e0)]) cx (c_L_bits l K sz (c := c0) (e := e0) (xwL K x y s y V) (by omega) (by omega) (by omega)) ok_L_bits dL_areSailors_517 wm_ml_L_114 rfl rfl (Nat.le_of_ble_eq_true rfl) ⟨Nat.le_of_ble_eq_true rfl, Nat.le_of_ble_eq_true rfl⟩ ⟨Nat.le_of_ble_eq_true rfl, Nat.le_of_ble_eq_true rfl⟩ rfl ?_
          refine G.icmp_eq (pc := 520) cx dL_areSailors_520 (tgt := 525) (by decide) (fun _ => ?_) (fun h9 => absurd rfl h9)
          refine G.aload_n (pc := 525) cx dL_areSailors_525 rfl 0 rfl ?_
          refine G.iload (pc := 526) cx dL_areSailors_526 6 rfl ?_
          refine G.callVg (pc := 528) (rest := []) (st1 := [.int (zPoorest y N (nI (zTh y N)))]) cx (k_poorest (l := l) (K := K) (sz := sz) (x := x) (z := y) (y := y) (s := s) (V := V) hI (nI (zTh y N))) ok_X9_poorest dL_areSailors_528 wm_ml_L_107 rfl xw_o rfl (Nat.le_of_ble_eq_true rfl) ⟨Nat.le_of_ble_eq_true rfl, Nat.le_of_ble_eq_true rfl⟩ ⟨Nat.le_of_ble_eq_true rfl, Nat.le_of_ble_eq_true rfl⟩ rfl ?_
          refine G.ldc (pc := 531) cx dL_areSailors_531 (v := (-1000004)) wm_ct_L_113 ?_
          refine G.icmp_ne (pc := 533) cx dL_areSailors_533 (tgt := 596) (by decide) (fun h9 => absurd (by exact po_end hI) h9) (fun _ => ?_)
          refine G.aload_n (pc := 536) cx dL_areSailors_536 rfl 0 rfl ?_
          refine G.iconst (pc := 537) cx dL_areSailors_537 (v := 0) (by decide) ?_
          refine G.callVg (pc := 538) (rest := []) (st1 := [.int (zIfPO y N 0)]) cx (k_ifPaidOff (l := l) (K := K) (sz := sz) (x := x) (z := y) (y := y) (s := s) (V := V) hI 0) ok_X9_ifPaidOff dL_areSailors_538 wm_ml_L_117 rfl xw_o rfl (Nat.le_of_ble_eq_true rfl) ⟨Nat.le_of_ble_eq_true rfl, Nat.le_of_ble_eq_true rfl⟩ ⟨Nat.le_of_ble_eq_true rfl, Nat.le_of_ble_eq_true rfl⟩ rfl ?_
          refine G.iload (pc := 541) cx dL_areSailors_541 9 rfl ?_
          refine G.icmp_ne (pc := 543) cx dL_areSailors_543 (tgt := 596) (by decide) (fun h9 => absurd (by rfl) h9) (fun _ => ?_)
          refine G.aload_n (pc := 546) cx dL_areSailors_546 rfl 0 rfl ?_
          refine G.iconst (pc := 547) cx dL_areSailors_547 (v := 1) (by decide) ?_
          refine G.callVg (pc := 548) (rest := []) (st1 := [.int (zIfPO y N 1)]) cx (k_ifPaidOff (l := l) (K := K) (sz := sz) (x := x) (z := y) (y := y) (s := s) (V := V) hI 1) ok_X9_ifPaidOff dL_areSailors_548 wm_ml_L_117 rfl xw_o rfl (Nat.le_of_ble_eq_true rfl) ⟨Nat.le_of_ble_eq_true rfl, Nat.le_of_ble_eq_true rfl⟩ ⟨Nat.le_of_ble_eq_true rfl, Nat.le_of_ble_eq_true rfl⟩ rfl ?_
          refine G.iload (pc := 551) cx dL_areSailors_551 9 rfl ?_
          refine G.aload_n (pc := 553) cx dL_areSailors_553 rfl 1 rfl ?_
          refine G.iconst (pc := 554) cx dL_areSailors_554 (v := 5) (by decide) ?_
          refine G.ialdV (pc := 555) cx dL_areSailors_555 xl_g (j := 5) rfl (by omega) (by decide) (xr_g (n := 195) (by omega) (by omega)) ?_
          refine G.icmp_le (pc := 556) cx dL_areSailors_556 (tgt := 568) (by decide) (fun cq556 => ?_) (fun cq556 => ?_)
          · skip
            have nq556 := Int32.not_lt.mpr cq556
            refine G.iconst (pc := 568) cx dL_areSailors_568 (v := 0) (by decide) ?_
            refine G.icmp_ne (pc := 569) cx dL_areSailors_569 (tgt := 596) (by decide) (fun h9 => absurd (by first | (refine (show zIfPO y N 1 = _ from rfl).trans ?_; first | exact if_neg nq556 | exact if_pos nq556)) h9) (fun _ => ?_)
            refine G.aload_n (pc := 572) cx dL_areSailors_572 rfl 0 rfl ?_
            refine G.iconst (pc := 573) cx dL_areSailors_573 (v := 2) (by decide) ?_
            refine G.callVg (pc := 574) (rest := []) (st1 := [.int (zIfPO y N 2)]) cx (k_ifPaidOff (l := l) (K := K) (sz := sz) (x := x) (z := y) (y := y) (s := s) (V := V) hI 2) ok_X9_ifPaidOff dL_areSailors_574 wm_ml_L_117 rfl xw_o rfl (Nat.le_of_ble_eq_true rfl) ⟨Nat.le_of_ble_eq_true rfl, Nat.le_of_ble_eq_true rfl⟩ ⟨Nat.le_of_ble_eq_true rfl, Nat.le_of_ble_eq_true rfl⟩ rfl ?_
            refine G.iload (pc := 577) cx dL_areSailors_577 10 rfl ?_
            refine G.icmp_ne (pc := 579) cx dL_areSailors_579 (tgt := 596) (by decide) (fun h9 => absurd (by rfl) h9) (fun _ => ?_)
            refine G.aload_n (pc := 582) cx dL_areSailors_582 rfl 0 rfl ?_
            refine G.iconst (pc := 583) cx dL_areSailors_583 (v := 3) (by decide) ?_
            refine G.callVg (pc := 584) (rest := []) (st1 := [.int (zIfPO y N 3)]) cx (k_ifPaidOff (l := l) (K := K) (sz := sz) (x := x) (z := y) (y := y) (s := s) (V := V) hI 3) ok_X9_ifPaidOff dL_areSailors_584 wm_ml_L_117 rfl xw_o rfl (Nat.le_of_ble_eq_true rfl) ⟨Nat.le_of_ble_eq_true rfl, Nat.le_of_ble_eq_true rfl⟩ ⟨Nat.le_of_ble_eq_true rfl, Nat.le_of_ble_eq_true rfl⟩ rfl ?_
            refine G.iload (pc := 587) cx dL_areSailors_587 11 rfl ?_
            refine G.icmp_ne (pc := 589) cx dL_areSailors_589 (tgt := 596) (by decide) (fun h9 => absurd (by rfl) h9) (fun _ => ?_)
            refine G.iconst (pc := 592) cx dL_areSailors_592 (v := 1) (by decide) ?_
            refine G.goto (pc := 593) cx dL_areSailors_593 (tgt := 597) (by decide) ?_
            refine G.zret (pc := 597) cx rfl dL_areSailors_597 rfl ?_ ?_ rfl
            · rfl
            · rfl
          · skip
            have nq556 := Int32.not_le.mp cq556
            refine G.iload (pc := 559) cx dL_areSailors_559 9 rfl ?_
            refine G.aload_n (pc := 561) cx dL_areSailors_561 rfl 1 rfl ?_
            refine G.iconst (pc := 562) cx dL_areSailors_562 (v := 5) (by decide) ?_
            refine G.ialdV (pc := 563) cx dL_areSailors_563 xl_g (j := 5) rfl (by omega) (by decide) (xr_g (n := 195) (by omega) (by omega)) ?_
            refine G.isub (pc := 564) cx dL_areSailors_564 ?_
            refine G.goto (pc := 565) cx dL_areSailors_565 (tgt := 569) (by decide) ?_
            refine G.icmp_ne (pc := 569) cx dL_areSailors_569 (tgt := 596) (by decide) (fun h9 => absurd (by first | (refine (show zIfPO y N 1 = _ from rfl).trans ?_; first | exact if_neg nq556 | exact if_pos nq556)) h9) (fun _ => ?_)
            refine G.aload_n (pc := 572) cx dL_areSailors_572 rfl 0 rfl ?_
            refine G.iconst (pc := 573) cx dL_areSailors_573 (v := 2) (by decide) ?_
            refine G.callVg (pc := 574) (rest := []) (st1 := [.int (zIfPO y N 2)]) cx (k_ifPaidOff (l := l) (K := K) (sz := sz) (x := x) (z := y) (y := y) (s := s) (V := V) hI 2) ok_X9_ifPaidOff dL_areSailors_574 wm_ml_L_117 rfl xw_o rfl (Nat.le_of_ble_eq_true rfl) ⟨Nat.le_of_ble_eq_true rfl, Nat.le_of_ble_eq_true rfl⟩ ⟨Nat.le_of_ble_eq_true rfl, Nat.le_of_ble_eq_true rfl⟩ rfl ?_
            refine G.iload (pc := 577) cx dL_areSailors_577 10 rfl ?_
            refine G.icmp_ne (pc := 579) cx dL_areSailors_579 (tgt := 596) (by decide) (fun h9 => absurd (by rfl) h9) (fun _ => ?_)
            refine G.aload_n (pc := 582) cx dL_areSailors_582 rfl 0 rfl ?_
            refine G.iconst (pc := 583) cx dL_areSailors_583 (v := 3) (by decide) ?_
            refine G.callVg (pc := 584) (rest := []) (st1 := [.int (zIfPO y N 3)]) cx (k_ifPaidOff (l := l) (K := K) (sz := sz) (x := x) (z := y) (y := y) (s := s) (V := V) hI 3) ok_X9_ifPaidOff dL_areSailors_584 wm_ml_L_117 rfl xw_o rfl (Nat.le_of_ble_eq_true rfl) ⟨Nat.le_of_ble_eq_true rfl, Nat.le_of_ble_eq_true rfl⟩ ⟨Nat.le_of_ble_eq_true rfl, Nat.le_of_ble_eq_true rfl⟩ rfl ?_
            refine G.iload (pc := 587) cx dL_areSailors_587 11 rfl ?_
            refine G.icmp_ne (pc := 589) cx dL_areSailors_589 (tgt := 596) (by decide) (fun h9 => absurd (by rfl) h9) (fun _ => ?_)
            refine G.iconst (pc := 592) cx dL_areSailors_592 (v := 1) (by decide) ?_
            refine G.goto (pc := 593) cx dL_areSailors_593 (tgt := 597) (by decide) ?_
            refine G.zret (pc := 597) cx rfl dL_areSailors_597 rfl ?_ ?_ rfl
            · rfl
            · rfl
        · skip
          refine G.ldc (pc := 508) cx dL_areSailors_508 (v := (-1000004)) wm_ct_L_113 ?_
          refine G.goto (pc := 510) cx dL_areSailors_510 (tgt := 520) (by decide) ?_
          refine G.icmp_eq (pc := 520) cx dL_areSailors_520 (tgt := 525) (by decide) (fun _ => ?_) (fun h9 => absurd (by first | rfl | exact if_pos cq505) h9)
          refine G.aload_n (pc := 525) cx dL_areSailors_525 rfl 0 rfl ?_
          refine G.iload (pc := 526) cx dL_areSailors_526 6 rfl ?_
          refine G.callVg (pc := 528) (rest := []) (st1 := [.int (zPoorest y N (nI (zTh y N)))]) cx (k_poorest (l := l) (K := K) (sz := sz) (x := x) (z := y) (y := y) (s := s) (V := V) hI (nI (zTh y N))) ok_X9_poorest dL_areSailors_528 wm_ml_L_107 rfl xw_o rfl (Nat.le_of_ble_eq_true rfl) ⟨Nat.le_of_ble_eq_true rfl, Nat.le_of_ble_eq_true rfl⟩ ⟨Nat.le_of_ble_eq_true rfl, Nat.le_of_ble_eq_true rfl⟩ rfl ?_
          refine G.ldc (pc := 531) cx dL_areSailors_531 (v := (-1000004)) wm_ct_L_113 ?_
          refine G.icmp_ne (pc := 533) cx dL_areSailors_533 (tgt := 596) (by decide) (fun h9 => absurd (by exact po_end hI) h9) (fun _ => ?_)
          refine G.aload_n (pc := 536) cx dL_areSailors_536 rfl 0 rfl ?_
          refine G.iconst (pc := 537) cx dL_areSailors_537 (v := 0) (by decide) ?_
          refine G.callVg (pc := 538) (rest := []) (st1 := [.int (zIfPO y N 0)]) cx (k_ifPaidOff (l := l) (K := K) (sz := sz) (x := x) (z := y) (y := y) (s := s) (V := V) hI 0) ok_X9_ifPaidOff dL_areSailors_538 wm_ml_L_117 rfl xw_o rfl (Nat.le_of_ble_eq_true rfl) ⟨Nat.le_of_ble_eq_true rfl, Nat.le_of_ble_eq_true rfl⟩ ⟨Nat.le_of_ble_eq_true rfl, Nat.le_of_ble_eq_true rfl⟩ rfl ?_
          refine G.iload (pc := 541) cx dL_areSailors_541 9 rfl ?_
          refine G.icmp_ne (pc := 543) cx dL_areSailors_543 (tgt := 596) (by decide) (fun h9 => absurd (by rfl) h9) (fun _ => ?_)
          refine G.aload_n (pc := 546) cx dL_areSailors_546 rfl 0 rfl ?_
          refine G.iconst (pc := 547) cx dL_areSailors_547 (v := 1) (by decide) ?_
          refine G.callVg (pc := 548) (rest := []) (st1 := [.int (zIfPO y N 1)]) cx (k_ifPaidOff (l := l) (K := K) (sz := sz) (x := x) (z := y) (y := y) (s := s) (V := V) hI 1) ok_X9_ifPaidOff dL_areSailors_548 wm_ml_L_117 rfl xw_o rfl (Nat.le_of_ble_eq_true rfl) ⟨Nat.le_of_ble_eq_true rfl, Nat.le_of_ble_eq_true rfl⟩ ⟨Nat.le_of_ble_eq_true rfl, Nat.le_of_ble_eq_true rfl⟩ rfl ?_
          refine G.iload (pc := 551) cx dL_areSailors_551 9 rfl ?_
          refine G.aload_n (pc := 553) cx dL_areSailors_553 rfl 1 rfl ?_
          refine G.iconst (pc := 554) cx dL_areSailors_554 (v := 5) (by decide) ?_
          refine G.ialdV (pc := 555) cx dL_areSailors_555 xl_g (j := 5) rfl (by omega) (by decide) (xr_g (n := 195) (by omega) (by omega)) ?_
          refine G.icmp_le (pc := 556) cx dL_areSailors_556 (tgt := 568) (by decide) (fun cq556 => ?_) (fun cq556 => ?_)
          · skip
            have nq556 := Int32.not_lt.mpr cq556
            refine G.iconst (pc := 568) cx dL_areSailors_568 (v := 0) (by decide) ?_
            refine G.icmp_ne (pc := 569) cx dL_areSailors_569 (tgt := 596) (by decide) (fun h9 => absurd (by first | (refine (show zIfPO y N 1 = _ from rfl).trans ?_; first | exact if_neg nq556 | exact if_pos nq556)) h9) (fun _ => ?_)
            refine G.aload_n (pc := 572) cx dL_areSailors_572 rfl 0 rfl ?_
            refine G.iconst (pc := 573) cx dL_areSailors_573 (v := 2) (by decide) ?_
            refine G.callVg (pc := 574) (rest := []) (st1 := [.int (zIfPO y N 2)]) cx (k_ifPaidOff (l := l) (K := K) (sz := sz) (x := x) (z := y) (y := y) (s := s) (V := V) hI 2) ok_X9_ifPaidOff dL_areSailors_574 wm_ml_L_117 rfl xw_o rfl (Nat.le_of_ble_eq_true rfl) ⟨Nat.le_of_ble_eq_true rfl, Nat.le_of_ble_eq_true rfl⟩ ⟨Nat.le_of_ble_eq_true rfl, Nat.le_of_ble_eq_true rfl⟩ rfl ?_
            refine G.iload (pc := 577) cx dL_areSailors_577 10 rfl ?_
            refine G.icmp_ne (pc := 579) cx dL_areSailors_579 (tgt := 596) (by decide) (fun h9 => absurd (by rfl) h9) (fun _ => ?_)
            refine G.aload_n (pc := 582) cx dL_areSailors_582 rfl 0 rfl ?_
            refine G.iconst (pc := 583) cx dL_areSailors_583 (v := 3) (by decide) ?_
            refine G.callVg (pc := 584) (rest := []) (st1 := [.int (zIfPO y N 3)]) cx (k_ifPaidOff (l := l) (K := K) (sz := sz) (x := x) (z := y) (y := y) (s := s) (V := V) hI 3) ok_X9_ifPaidOff dL_areSailors_584 wm_ml_L_117 rfl xw_o rfl (Nat.le_of_ble_eq_true rfl) ⟨Nat.le_of_ble_eq_true rfl, Nat.le_of_ble_eq_true rfl⟩ ⟨Nat.le_of_ble_eq_true rfl, Nat.le_of_ble_eq_true rfl⟩ rfl ?_
            refine G.iload (pc := 587) cx dL_areSailors_587 11 rfl ?_
            refine G.icmp_ne (pc := 589) cx dL_areSailors_589 (tgt := 596) (by decide) (fun h9 => absurd (by rfl) h9) (fun _ => ?_)
            refine G.iconst (pc := 592) cx dL_areSailors_592 (v := 1) (by decide) ?_
            refine G.goto (pc := 593) cx dL_areSailors_593 (tgt := 597) (by decide) ?_
            refine G.zret (pc := 597) cx rfl dL_areSailors_597 rfl ?_ ?_ rfl
            · rfl
            · rfl
          · skip
            have nq556 := Int32.not_le.mp cq556
            refine G.iload (pc := 559) cx dL_areSailors_559 9 rfl ?_
            refine G.aload_n (pc := 561) cx dL_areSailors_561 rfl 1 rfl ?_
            refine G.iconst (pc := 562) cx dL_areSailors_562 (v := 5) (by decide) ?_
            refine G.ialdV (pc := 563) cx dL_areSailors_563 xl_g (j := 5) rfl (by omega) (by decide) (xr_g (n := 195) (by omega) (by omega)) ?_
            refine G.isub (pc := 564) cx dL_areSailors_564 ?_
            refine G.goto (pc := 565) cx dL_areSailors_565 (tgt := 569) (by decide) ?_
            refine G.icmp_ne (pc := 569) cx dL_areSailors_569 (tgt := 596) (by decide) (fun h9 => absurd (by first | (refine (show zIfPO y N 1 = _ from rfl).trans ?_; first | exact if_neg nq556 | exact if_pos nq556)) h9) (fun _ => ?_)
            refine G.aload_n (pc := 572) cx dL_areSailors_572 rfl 0 rfl ?_
            refine G.iconst (pc := 573) cx dL_areSailors_573 (v := 2) (by decide) ?_
            refine G.callVg (pc := 574) (rest := []) (st1 := [.int (zIfPO y N 2)]) cx (k_ifPaidOff (l := l) (K := K) (sz := sz) (x := x) (z := y) (y := y) (s := s) (V := V) hI 2) ok_X9_ifPaidOff dL_areSailors_574 wm_ml_L_117 rfl xw_o rfl (Nat.le_of_ble_eq_true rfl) ⟨Nat.le_of_ble_eq_true rfl, Nat.le_of_ble_eq_true rfl⟩ ⟨Nat.le_of_ble_eq_true rfl, Nat.le_of_ble_eq_true rfl⟩ rfl ?_
            refine G.iload (pc := 577) cx dL_areSailors_577 10 rfl ?_
            refine G.icmp_ne (pc := 579) cx dL_areSailors_579 (tgt := 596) (by decide) (fun h9 => absurd (by rfl) h9) (fun _ => ?_)
            refine G.aload_n (pc := 582) cx dL_areSailors_582 rfl 0 rfl ?_
            refine G.iconst (pc := 583) cx dL_areSailors_583 (v := 3) (by decide) ?_
            refine G.callVg (pc := 584) (rest := []) (st1 := [.int (zIfPO y N 3)]) cx (k_ifPaidOff (l := l) (K := K) (sz := sz) (x := x) (z := y) (y := y) (s := s) (V := V) hI 3) ok_X9_ifPaidOff dL_areSailors_584 wm_ml_L_117 rfl xw_o rfl (Nat.le_of_ble_eq_true rfl) ⟨Nat.le_of_ble_eq_true rfl, Nat.le_of_ble_eq_true rfl⟩ ⟨Nat.le_of_ble_eq_true rfl, Nat.le_of_ble_eq_true rfl⟩ rfl ?_
            refine G.iload (pc := 587) cx dL_areSailors_587 11 rfl ?_
            refine G.icmp_ne (pc := 589) cx dL_areSailors_589 (tgt := 596) (by decide) (fun h9 => absurd (by rfl) h9) (fun _ => ?_)
            refine G.iconst (pc := 592) cx dL_areSailors_592 (v := 1) (by decide) ?_
            refine G.goto (pc := 593) cx dL_areSailors_593 (tgt := 597) (by decide) ?_
            refine G.zret (pc := 597) cx rfl dL_areSailors_597 rfl ?_ ?_ rfl
            · rfl
            · rfl
      · skip
        have nq26 := Nat.not_le.mpr cq26
        refine G.aload_n (pc := 29) cx dL_areSailors_29 rfl 2 rfl ?_
        refine G.aload_n (pc := 30) cx dL_areSailors_30 rfl 3 rfl ?_
        refine G.aload (pc := 31) cx dL_areSailors_31 4 rfl ?_
        refine G.iload (pc := 33) cx dL_areSailors_33 12 rfl ?_
        refine G.callSg (pc := 35) (rest := []) (st1 := [.int (zBal y k21)]) cx (c_L_balance l K sz x y s y V k21 (by omega)) ok_L_balance dL_areSailors_35 wm_ml_L_23 rfl rfl (Nat.le_of_ble_eq_true rfl) ⟨Nat.le_of_ble_eq_true rfl, Nat.le_of_ble_eq_true rfl⟩ ⟨Nat.le_of_ble_eq_true rfl, Nat.le_of_ble_eq_true rfl⟩ rfl ?_
        refine G.istore (pc := 38) cx dL_areSailors_38 (by decide) rfl ?_
        refine G.iconst (pc := 40) cx dL_areSailors_40 (v := 0) (by decide) ?_
        refine G.istore (pc := 41) cx dL_areSailors_41 (by decide) rfl ?_
        refine G.iconst (pc := 43) cx dL_areSailors_43 (v := 0) (by decide) ?_
        refine G.istore (pc := 44) cx dL_areSailors_44 (by decide) rfl ?_
        have L46_2 : ∀ (fz k46 : Nat), N - k46 < fz → k46 ≤ N → G K p9 l e9 (rmL 7 0 0) s9 m9 a9 b9 t9 c9 (MQ b9 (QCt K (some (.int 1)) (xwL K x y s y V) sz) a9 s9 0 0 (kA K)) 17 (xwL K x y s y V) sz 0 0 46 [(13, .int (zBal y k21)), (0, .ref x), (1, .ref (x + 194)), (2, .ref (x + 195)), (3, .ref (x + 196)), (4, .ref (x + 197)), (5, .ref (x + 198)), (6, .int (nI (zTh y k21))), (7, .int (rEs y k21)), (8, .int (rCs y k21)), (9, .int (zPaid y k21)), (10, .int (zDebt y k21)), (11, .int (zDSet y k21)), (12, .int (nI k21)), (14, .int (nI (zAhead y k21 k46))), (15, .int (nI k46))] [] := by
          intro fz
          induction fz with
          | zero => intro k46 h9; omega
          | succ fz ih46 =>
            intro k46 h946 h846
            refine G.iload (pc := 46) cx dL_areSailors_46 15 rfl ?_
            refine G.aload_n (pc := 48) cx dL_areSailors_48 rfl 2 rfl ?_
            refine G.iconst (pc := 49) cx dL_areSailors_49 (v := 4) (by decide) ?_
            refine G.ialdV (pc := 50) cx dL_areSailors_50 xl_g (j := 4) rfl (by omega) (by decide) ((xr_g (n := 194) (by omega) (by omega)).trans (hN)) ?_
            refine G.icmp_geN (pc := 51) cx k46 N (by omega) (by omega) dL_areSailors_51 (tgt := 117) (by decide) (fun cq51 => ?_) (fun cq51 => ?_)
            · skip
              have nq51 := Nat.not_lt.mpr cq51
              have ex46 : k46 = N := by omega
              try rw [ex46]
              refine G.iconst (pc := 117) cx dL_areSailors_117 (v := 0) (by decide) ?_
              refine G.istore (pc := 118) cx dL_areSailors_118 (by decide) rfl ?_
              have L120_3 : ∀ (fz k120 : Nat), 3 - k120 < fz → k120 ≤ 3 → G K p9 l e9 (rmL 7 0 0) s9 m9 a9 b9 t9 c9 (MQ b9 (QCt K (some (.int 1)) (xwL K x y s y V) sz) a9 s9 0 0 (kA K)) 17 (xwL K x y s y V) sz 0 0 120 [(13, .int (zBal y k21)), (0, .ref x), (1, .ref (x + 194)), (2, .ref (x + 195)), (3, .ref (x + 196)), (4, .ref (x + 197)), (5, .ref (x + 198)), (6, .int (nI (zTh y k21))), (7, .int (rEs y k21)), (8, .int (rCs y k21)), (9, .int (zPaid y k21)), (10, .int (zDebt y k21)), (11, .int (zDSet y k21)), (12, .int (nI k21)), (14, .int (nI (zAhead y k21 N))), (15, .int (nI k120))] [] := by
                intro fz
                induction fz with
                | zero => intro k120 h9; omega
                | succ fz ih120 =>
                  intro k120 h9120 h8120
                  refine G.iload (pc := 120) cx dL_areSailors_120 15 rfl ?_
                  refine G.iconst (pc := 122) cx dL_areSailors_122 (v := 3) (by decide) ?_
                  refine G.icmp_geN (pc := 123) cx k120 3 (by omega) (by omega) dL_areSailors_123 (tgt := 178) (by decide) (fun cq123 => ?_) (fun cq123 => ?_)
                  · skip
                    have nq123 := Nat.not_lt.mpr cq123
                    have ex120 : k120 = 3 := by omega
                    try rw [ex120]
                    refine G.aload_n (pc := 178) cx dL_areSailors_178 rfl 1 rfl ?_
                    refine G.iload (pc := 179) cx dL_areSailors_179 13 rfl ?_
                    refine G.iconst (pc := 181) cx dL_areSailors_181 (v := 3) (by decide) ?_
                    refine G.callVg (pc := 182) (rest := []) (st1 := [.int (zSailor y (nI k21) 3)]) cx (k_sailor (l := l) (K := K) (sz := sz) (x := x) (z := y) (y := y) (s := s) (V := V) hI (nI k21) 3) ok_X9_sailor dL_areSailors_182 wm_ml_L_101 rfl xw_o rfl (Nat.le_of_ble_eq_true rfl) ⟨Nat.le_of_ble_eq_true rfl, Nat.le_of_ble_eq_true rfl⟩ ⟨Nat.le_of_ble_eq_true rfl, Nat.le_of_ble_eq_true rfl⟩ rfl ?_
                    refine G.sipush (pc := 185) cx dL_areSailors_185 (v := 10000) (by decide) ?_
                    refine G.iload (pc := 188) cx dL_areSailors_188 0 rfl ?_
                    refine G.iadd (pc := 190) cx dL_areSailors_190 ?_
                    refine G.icmp_ne (pc := 191) cx dL_areSailors_191 (tgt := 302) (by decide) (fun h9 => absurd (by exact sa_q hI (by omega) _) h9) (fun _ => ?_)
                    refine G.aload_n (pc := 194) cx dL_areSailors_194 rfl 1 rfl ?_
                    refine G.iload (pc := 195) cx dL_areSailors_195 13 rfl ?_
                    refine G.iconst (pc := 197) cx dL_areSailors_197 (v := 4) (by decide) ?_
                    refine G.callVg (pc := 198) (rest := []) (st1 := [.int (zSailor y (nI k21) 4)]) cx (k_sailor (l := l) (K := K) (sz := sz) (x := x) (z := y) (y := y) (s := s) (V := V) hI (nI k21) 4) ok_X9_sailor dL_areSailors_198 wm_ml_L_101 rfl xw_o rfl (Nat.le_of_ble_eq_true rfl) ⟨Nat.le_of_ble_eq_true rfl, Nat.le_of_ble_eq_true rfl⟩ ⟨Nat.le_of_ble_eq_true rfl, Nat.le_of_ble_eq_true rfl⟩ rfl ?_
                    refine G.sipush (pc := 201) cx dL_areSailors_201 (v := 10000) (by decide) ?_
                    refine G.iload (pc := 204) cx dL_areSailors_204 0 rfl ?_
                    refine G.iadd (pc := 206) cx dL_areSailors_206 ?_
                    refine G.icmp_ne (pc := 207) cx dL_areSailors_207 (tgt := 302) (by decide) (fun h9 => absurd (by exact sa_q hI (by omega) _) h9) (fun _ => ?_)
                    refine G.aload_n (pc := 210) cx dL_areSailors_210 rfl 1 rfl ?_
                    refine G.iload (pc := 211) cx dL_areSailors_211 13 rfl ?_
                    refine G.iconst (pc := 213) cx dL_areSailors_213 (v := 5) (by decide) ?_
                    refine G.callVg (pc := 214) (rest := []) (st1 := [.int (zSailor y (nI k21) 5)]) cx (k_sailor (l := l) (K := K) (sz := sz) (x := x) (z := y) (y := y) (s := s) (V := V) hI (nI k21) 5) ok_X9_sailor dL_areSailors_214 wm_ml_L_101 rfl xw_o rfl (Nat.le_of_ble_eq_true rfl) ⟨Nat.le_of_ble_eq_true rfl, Nat.le_of_ble_eq_true rfl⟩ ⟨Nat.le_of_ble_eq_true rfl, Nat.le_of_ble_eq_true rfl⟩ rfl ?_
                    refine G.aload_n (pc := 217) cx dL_areSailors_217 rfl 4 rfl ?_
                    refine G.iconst (pc := 218) cx dL_areSailors_218 (v := 4) (by decide) ?_
                    refine G.iload (pc := 219) cx dL_areSailors_219 13 rfl ?_
                    refine G.imulN (pc := 221) cx dL_areSailors_221 4 k21 ?_
                    refine G.ialdV (pc := 222) cx dL_areSailors_222 xl_b (j := (4 * k21)) rfl (by omega) (by decide) (xr_b (n := 10 * k21 + 3) (by omega) (by omega)) ?_
                    refine G.icmp_ne (pc := 223) cx dL_areSailors_223 (tgt := 302) (by decide) (fun h9 => absurd (by exact sa_q hI (by omega) _) h9) (fun _ => ?_)
                    refine G.aload_n (pc := 226) cx dL_areSailors_226 rfl 1 rfl ?_
                    refine G.iload (pc := 227) cx dL_areSailors_227 13 rfl ?_
                    refine G.bipush (pc := 229) cx dL_areSailors_229 (v := 6) (by decide) ?_
                    refine G.callVg (pc := 231) (rest := []) (st1 := [.int (zSailor y (nI k21) 6)]) cx (k_sailor (l := l) (K := K) (sz := sz) (x := x) (z := y) (y := y) (s := s) (V := V) hI (nI k21) 6) ok_X9_sailor dL_areSailors_231 wm_ml_L_101 rfl xw_o rfl (Nat.le_of_ble_eq_true rfl) ⟨Nat.le_of_ble_eq_true rfl, Nat.le_of_ble_eq_true rfl⟩ ⟨Nat.le_of_ble_eq_true rfl, Nat.le_of_ble_eq_true rfl⟩ rfl ?_
                    refine G.aload_n (pc := 234) cx dL_areSailors_234 rfl 4 rfl ?_
                    refine G.iconst (pc := 235) cx dL_areSailors_235 (v := 4) (by decide) ?_
                    refine G.iload (pc := 236) cx dL_areSailors_236 13 rfl ?_
                    refine G.imulN (pc := 238) cx dL_areSailors_238 4 k21 ?_
                    refine G.iconst (pc := 239) cx dL_areSailors_239 (v := 1) (by decide) ?_
                    refine G.iaddN (pc := 240) cx dL_areSailors_240 (4 * k21) 1 ?_
                    refine G.ialdV (pc := 241) cx dL_areSailors_241 xl_b (j := ((4 * k21) + 1)) rfl (by omega) (by decide) (xr_b (n := 10 * k21 + 4) (by omega) (by omega)) ?_
                    refine G.icmp_ne (pc := 242) cx dL_areSailors_242 (tgt := 302) (by decide) (fun h9 => absurd (by exact sa_q hI (by omega) _) h9) (fun _ => ?_)
                    refine G.aload_n (pc := 245) cx dL_areSailors_245 rfl 1 rfl ?_
                    refine G.iload (pc := 246) cx dL_areSailors_246 13 rfl ?_
                    refine G.bipush (pc := 248) cx dL_areSailors_248 (v := 7) (by decide) ?_
                    refine G.callVg (pc := 250) (rest := []) (st1 := [.int (zSailor y (nI k21) 7)]) cx (k_sailor (l := l) (K := K) (sz := sz) (x := x) (z := y) (y := y) (s := s) (V := V) hI (nI k21) 7) ok_X9_sailor dL_areSailors_250 wm_ml_L_101 rfl xw_o rfl (Nat.le_of_ble_eq_true rfl) ⟨Nat.le_of_ble_eq_true rfl, Nat.le_of_ble_eq_true rfl⟩ ⟨Nat.le_of_ble_eq_true rfl, Nat.le_of_ble_eq_true rfl⟩ rfl ?_
                    refine G.aload_n (pc := 253) cx dL_areSailors_253 rfl 3 rfl ?_
                    refine G.aload_n (pc := 254) cx dL_areSailors_254 rfl 4 rfl ?_
                    refine G.iload (pc := 255) cx dL_areSailors_255 13 rfl ?_
                    refine G.callSg (pc := 257) (rest := [.int (zSailor y (nI k21) 7)]) (st1 := [.int (zEarn y k21), .int (zSailor y (nI k21) 7)]) cx (c_L_earned l K sz x y s y V k21 (by omega)) ok_L_earned dL_areSailors_257 wm_ml_L_9 rfl rfl (Nat.le_of_ble_eq_true rfl) ⟨Nat.le_of_ble_eq_true rfl, Nat.le_of_ble_eq_true rfl⟩ ⟨Nat.le_of_ble_eq_true rfl, Nat.le_of_ble_eq_true rfl⟩ rfl ?_
                    refine G.icmp_ne (pc := 260) cx dL_areSailors_260 (tgt := 302) (by decide) (fun h9 => absurd (by exact sa_q hI (by omega) _) h9) (fun _ => ?_)
                    refine G.aload_n (pc := 263) cx dL_areSailors_263 rfl 1 rfl ?_
                    refine G.iload (pc := 264) cx dL_areSailors_264 13 rfl ?_
                    refine G.bipush (pc := 266) cx dL_areSailors_266 (v := 11) (by decide) ?_
                    refine G.callVg (pc := 268) (rest := []) (st1 := [.int (zSailor y (nI k21) 11)]) cx (k_sailor (l := l) (K := K) (sz := sz) (x := x) (z := y) (y := y) (s := s) (V := V) hI (nI k21) 11) ok_X9_sailor dL_areSailors_268 wm_ml_L_101 rfl xw_o rfl (Nat.le_of_ble_eq_true rfl) ⟨Nat.le_of_ble_eq_true rfl, Nat.le_of_ble_eq_true rfl⟩ ⟨Nat.le_of_ble_eq_true rfl, Nat.le_of_ble_eq_true rfl⟩ rfl ?_
                    refine G.aload_n (pc := 271) cx dL_areSailors_271 rfl 4 rfl ?_
                    refine G.iconst (pc := 272) cx dL_areSailors_272 (v := 4) (by decide) ?_
                    refine G.iload (pc := 273) cx dL_areSailors_273 13 rfl ?_
                    refine G.imulN (pc := 275) cx dL_areSailors_275 4 k21 ?_
                    refine G.iconst (pc := 276) cx dL_areSailors_276 (v := 2) (by decide) ?_
                    refine G.iaddN (pc := 277) cx dL_areSailors_277 (4 * k21) 2 ?_
                    refine G.ialdV (pc := 278) cx dL_areSailors_278 xl_b (j := ((4 * k21) + 2)) rfl (by omega) (by decide) (xr_b (n := 10 * k21 + 8) (by omega) (by omega)) ?_
                    refine G.ineg (pc := 279) cx dL_areSailors_279 ?_
                    refine G.icmp_ne (pc := 280) cx dL_areSailors_280 (tgt := 302) (by decide) (fun h9 => absurd (by exact sa_q hI (by omega) _) h9) (fun _ => ?_)
                    refine G.aload_n (pc := 283) cx dL_areSailors_283 rfl 1 rfl ?_
                    refine G.iload (pc := 284) cx dL_areSailors_284 13 rfl ?_
                    refine G.bipush (pc := 286) cx dL_areSailors_286 (v := 12) (by decide) ?_
                    refine G.callVg (pc := 288) (rest := []) (st1 := [.int (zSailor y (nI k21) 12)]) cx (k_sailor (l := l) (K := K) (sz := sz) (x := x) (z := y) (y := y) (s := s) (V := V) hI (nI k21) 12) ok_X9_sailor dL_areSailors_288 wm_ml_L_101 rfl xw_o rfl (Nat.le_of_ble_eq_true rfl) ⟨Nat.le_of_ble_eq_true rfl, Nat.le_of_ble_eq_true rfl⟩ ⟨Nat.le_of_ble_eq_true rfl, Nat.le_of_ble_eq_true rfl⟩ rfl ?_
                    refine G.aload_n (pc := 291) cx dL_areSailors_291 rfl 4 rfl ?_
                    refine G.iconst (pc := 292) cx dL_areSailors_292 (v := 4) (by decide) ?_
                    refine G.iload (pc := 293) cx dL_areSailors_293 13 rfl ?_
                    refine G.imulN (pc := 295) cx dL_areSailors_295 4 k21 ?_
                    refine G.iconst (pc := 296) cx dL_areSailors_296 (v := 3) (by decide) ?_
                    refine G.iaddN (pc := 297) cx dL_areSailors_297 (4 * k21) 3 ?_
                    refine G.ialdV (pc := 298) cx dL_areSailors_298 xl_b (j := ((4 * k21) + 3)) rfl (by omega) (by decide) (xr_b (n := 10 * k21 + 9) (by omega) (by omega)) ?_
                    refine G.icmp_eq (pc := 299) cx dL_areSailors_299 (tgt := 304) (by decide) (fun _ => ?_) (fun h9 => absurd (by exact sa_q hI (by omega) _) h9)
                    refine G.iload (pc := 304) cx dL_areSailors_304 13 rfl ?_
                    refine G.aload_n (pc := 306) cx dL_areSailors_306 rfl 2 rfl ?_
                    refine G.iconst (pc := 307) cx dL_areSailors_307 (v := 2) (by decide) ?_
                    refine G.ialdV (pc := 308) cx dL_areSailors_308 xl_g (j := 2) rfl (by omega) (by decide) ((xr_g (n := 192) (by omega) (by omega)).trans (hD)) ?_
                    refine G.iaddN (pc := 309) cx dL_areSailors_309 k21 D ?_
                    refine G.bipush (pc := 310) cx dL_areSailors_310 (v := 6) (by decide) ?_
                    refine G.iremN (pc := 312) cx dL_areSailors_312 (k21 + D) 6 (by omega) (by omega) (by omega) ?_
                    refine G.istore (pc := 313) cx dL_areSailors_313 (by decide) rfl ?_
                    have J352_4 : G K p9 l e9 (rmL 7 0 0) s9 m9 a9 b9 t9 c9 (MQ b9 (QCt K (some (.int 1)) (xwL K x y s y V) sz) a9 s9 0 0 (kA K)) 17 (xwL K x y s y V) sz 0 0 352 [(0, .ref x), (1, .ref (x + 194)), (2, .ref (x + 195)), (3, .ref (x + 196)), (4, .ref (x + 197)), (5, .ref (x + 198)), (6, .int (nI (zTh y k21))), (7, .int (rEs y k21)), (8, .int (rCs y k21)), (9, .int (zPaid y k21)), (10, .int (zDebt y k21)), (11, .int (zDSet y k21)), (12, .int (nI k21)), (13, .int (zBal y k21)), (14, .int (nI (zAhead y k21 N))), (15, .int (nI ((k21 + D) % 6))), (16, .int (nI (zMostF y k21 ((k21 + D) % 6) 99 0)))] [] := by
                      refine G.aload_n (pc := 352) cx dL_areSailors_352 rfl 0 rfl ?_
                      refine G.iload (pc := 353) cx dL_areSailors_353 12 rfl ?_
                      refine G.iload (pc := 355) cx dL_areSailors_355 15 rfl ?_
                      refine G.callVg (pc := 357) (rest := []) (st1 := [.int (zMost y (nI k21) (nI ((k21 + D) % 6)))]) cx (k_most (l := l) (K := K) (sz := sz) (x := x) (z := y) (y := y) (s := s) (V := V) hI (nI k21) (nI ((k21 + D) % 6))) ok_X9_most dL_areSailors_357 wm_ml_L_104 rfl xw_o rfl (Nat.le_of_ble_eq_true rfl) ⟨Nat.le_of_ble_eq_true rfl, Nat.le_of_ble_eq_true rfl⟩ ⟨Nat.le_of_ble_eq_true rfl, Nat.le_of_ble_eq_true rfl⟩ rfl ?_
                      refine G.iload (pc := 360) cx dL_areSailors_360 16 rfl ?_
                      refine G.icmp_eq (pc := 362) cx dL_areSailors_362 (tgt := 367) (by decide) (fun _ => ?_) (fun h9 => absurd (by exact most_in hI (by omega) (by omega)) h9)
                      refine G.aload_n (pc := 367) cx dL_areSailors_367 rfl 2 rfl ?_
                      refine G.iconst (pc := 368) cx dL_areSailors_368 (v := 3) (by decide) ?_
                      refine G.iload (pc := 369) cx dL_areSailors_369 12 rfl ?_
                      refine G.imulN (pc := 371) cx dL_areSailors_371 3 k21 ?_
                      refine G.iconst (pc := 372) cx dL_areSailors_372 (v := 2) (by decide) ?_
                      refine G.iaddN (pc := 373) cx dL_areSailors_373 (3 * k21) 2 ?_
                      refine G.ialdV (pc := 374) cx dL_areSailors_374 xl_a (j := ((3 * k21) + 2)) rfl (by omega) (by decide) (xr_a (n := 10 * k21 + 2) (by omega) (by omega)) ?_
                      refine G.iconst (pc := 375) cx dL_areSailors_375 (v := 2) (by decide) ?_
                      refine G.icmp_ne (pc := 376) cx dL_areSailors_376 (tgt := 382) (by decide) (fun cq376 => ?_) (fun cq376 => ?_)
                      · skip
                        refine G.iinc (pc := 382) cx dL_areSailors_382 (v := nI (zTh y k21 + 1)) (k := 6) rfl (nI_add (zTh y k21) 1) (by decide) rfl ?_
                        refine G.iload (pc := 385) cx dL_areSailors_385 7 rfl ?_
                        refine G.aload_n (pc := 387) cx dL_areSailors_387 rfl 3 rfl ?_
                        refine G.aload_n (pc := 388) cx dL_areSailors_388 rfl 4 rfl ?_
                        refine G.iload (pc := 389) cx dL_areSailors_389 12 rfl ?_
                        refine G.callSg (pc := 391) (rest := [.int (rEs y k21)]) (st1 := [.int (zEarn y k21), .int (rEs y k21)]) cx (c_L_earned l K sz x y s y V k21 (by omega)) ok_L_earned dL_areSailors_391 wm_ml_L_9 rfl rfl (Nat.le_of_ble_eq_true rfl) ⟨Nat.le_of_ble_eq_true rfl, Nat.le_of_ble_eq_true rfl⟩ ⟨Nat.le_of_ble_eq_true rfl, Nat.le_of_ble_eq_true rfl⟩ rfl ?_
                        refine G.iadd (pc := 394) cx dL_areSailors_394 ?_
                        refine G.istore (pc := 395) cx dL_areSailors_395 (by decide) rfl ?_
                        refine G.iload (pc := 397) cx dL_areSailors_397 8 rfl ?_
                        refine G.aload (pc := 399) cx dL_areSailors_399 6 rfl ?_
                        refine G.iconst (pc := 401) cx dL_areSailors_401 (v := 3) (by decide) ?_
                        refine G.iload (pc := 402) cx dL_areSailors_402 12 rfl ?_
                        refine G.imulN (pc := 404) cx dL_areSailors_404 3 k21 ?_
                        refine G.ialdV (pc := 405) cx dL_areSailors_405 xl_c (j := (3 * k21)) rfl (by omega) (by decide) (xr_c (n := 10 * k21 + 5) (by omega) (by omega)) ?_
                        refine G.aload (pc := 406) cx dL_areSailors_406 6 rfl ?_
                        refine G.iconst (pc := 408) cx dL_areSailors_408 (v := 3) (by decide) ?_
                        refine G.iload (pc := 409) cx dL_areSailors_409 12 rfl ?_
                        refine G.imulN (pc := 411) cx dL_areSailors_411 3 k21 ?_
                        refine G.iconst (pc := 412) cx dL_areSailors_412 (v := 1) (by decide) ?_
                        refine G.iaddN (pc := 413) cx dL_areSailors_413 (3 * k21) 1 ?_
                        refine G.ialdV (pc := 414) cx dL_areSailors_414 xl_c (j := ((3 * k21) + 1)) rfl (by omega) (by decide) (xr_c (n := 10 * k21 + 6) (by omega) (by omega)) ?_
                        refine G.iadd (pc := 415) cx dL_areSailors_415 ?_
                        refine G.aload (pc := 416) cx dL_areSailors_416 6 rfl ?_
                        refine G.iconst (pc := 418) cx dL_areSailors_418 (v := 3) (by decide) ?_
                        refine G.iload (pc := 419) cx dL_areSailors_419 12 rfl ?_
                        refine G.imulN (pc := 421) cx dL_areSailors_421 3 k21 ?_
                        refine G.iconst (pc := 422) cx dL_areSailors_422 (v := 2) (by decide) ?_
                        refine G.iaddN (pc := 423) cx dL_areSailors_423 (3 * k21) 2 ?_
                        refine G.ialdV (pc := 424) cx dL_areSailors_424 xl_c (j := ((3 * k21) + 2)) rfl (by omega) (by decide) (xr_c (n := 10 * k21 + 7) (by omega) (by omega)) ?_
                        refine G.iadd (pc := 425) cx dL_areSailors_425 ?_
                        refine G.iadd (pc := 426) cx dL_areSailors_426 ?_
                        refine G.istore (pc := 427) cx dL_areSailors_427 (by decide) rfl ?_
                        refine G.iload (pc := 429) cx dL_areSailors_429 9 rfl ?_
                        refine G.iload (pc := 431) cx dL_areSailors_431 13 rfl ?_
                        have J442_5 : G K p9 l e9 (rmL 7 0 0) s9 m9 a9 b9 t9 c9 (MQ b9 (QCt K (some (.int 1)) (xwL K x y s y V) sz) a9 s9 0 0 (kA K)) 17 (xwL K x y s y V) sz 0 0 442 [(0, .ref x), (1, .ref (x + 194)), (2, .ref (x + 195)), (3, .ref (x + 196)), (4, .ref (x + 197)), (5, .ref (x + 198)), (6, .int (nI (zTh y k21 + 1))), (7, .int ((rEs y k21) + (zEarn y k21))), (8, .int ((rCs y k21) + (((y (10 * k21 + 5)) + (y (10 * k21 + 6))) + (y (10 * k21 + 7))))), (9, .int (zPaid y k21)), (10, .int (zDebt y k21)), (11, .int (zDSet y k21)), (12, .int (nI k21)), (13, .int (zBal y k21)), (14, .int (nI (zAhead y k21 N))), (15, .int (nI ((k21 + D) % 6))), (16, .int (nI (zMostF y k21 ((k21 + D) % 6) 99 0)))] [.int (if 0 < zBal y k21 then zBal y k21 else 0), .int (zPaid y k21)] := by
                          refine G.iadd (pc := 442) cx dL_areSailors_442 ?_
                          refine G.istore (pc := 443) cx dL_areSailors_443 (by decide) rfl ?_
                          refine G.iload (pc := 445) cx dL_areSailors_445 10 rfl ?_
                          refine G.iload (pc := 447) cx dL_areSailors_447 13 rfl ?_
                          have J459_6 : G K p9 l e9 (rmL 7 0 0) s9 m9 a9 b9 t9 c9 (MQ b9 (QCt K (some (.int 1)) (xwL K x y s y V) sz) a9 s9 0 0 (kA K)) 17 (xwL K x y s y V) sz 0 0 459 [(0, .ref x), (1, .ref (x + 194)), (2, .ref (x + 195)), (3, .ref (x + 196)), (4, .ref (x + 197)), (5, .ref (x + 198)), (6, .int (nI (zTh y k21 + 1))), (7, .int ((rEs y k21) + (zEarn y k21))), (8, .int ((rCs y k21) + (((y (10 * k21 + 5)) + (y (10 * k21 + 6))) + (y (10 * k21 + 7))))), (9, .int ((zPaid y k21) + (if 0 < zBal y k21 then zBal y k21 else 0))), (10, .int (zDebt y k21)), (11, .int (zDSet y k21)), (12, .int (nI k21)), (13, .int (zBal y k21)), (14, .int (nI (zAhead y k21 N))), (15, .int (nI ((k21 + D) % 6))), (16, .int (nI (zMostF y k21 ((k21 + D) % 6) 99 0)))] [.int (if zBal y k21 < 0 then -(zBal y k21) else 0), .int (zDebt y k21)] := by
                            refine G.iadd (pc := 459) cx dL_areSailors_459 ?_
                            refine G.istore (pc := 460) cx dL_areSailors_460 (by decide) rfl ?_
                            refine G.iload (pc := 462) cx dL_areSailors_462 11 rfl ?_
                            refine G.iload (pc := 464) cx dL_areSailors_464 13 rfl ?_
                            have J477_7 : G K p9 l e9 (rmL 7 0 0) s9 m9 a9 b9 t9 c9 (MQ b9 (QCt K (some (.int 1)) (xwL K x y s y V) sz) a9 s9 0 0 (kA K)) 17 (xwL K x y s y V) sz 0 0 477 [(0, .ref x), (1, .ref (x + 194)), (2, .ref (x + 195)), (3, .ref (x + 196)), (4, .ref (x + 197)), (5, .ref (x + 198)), (6, .int (nI (zTh y k21 + 1))), (7, .int ((rEs y k21) + (zEarn y k21))), (8, .int ((rCs y k21) + (((y (10 * k21 + 5)) + (y (10 * k21 + 6))) + (y (10 * k21 + 7))))), (9, .int ((zPaid y k21) + (if 0 < zBal y k21 then zBal y k21 else 0))), (10, .int ((zDebt y k21) + (if zBal y k21 < 0 then -(zBal y k21) else 0))), (11, .int (zDSet y k21)), (12, .int (nI k21)), (13, .int (zBal y k21)), (14, .int (nI (zAhead y k21 N))), (15, .int (nI ((k21 + D) % 6))), (16, .int (nI (zMostF y k21 ((k21 + D) % 6) 99 0)))] [.int (if zBal y k21 < 0 then 1 <<< (nI k21 &&& 31) else 0), .int (zDSet y k21)] := by
                              refine G.ior (pc := 477) cx dL_areSailors_477 ?_
                              refine G.istore (pc := 478) cx dL_areSailors_478 (by decide) rfl ?_
                              refine G.aload_n (pc := 480) cx dL_areSailors_480 rfl 1 rfl ?_
                              refine G.iload (pc := 481) cx dL_areSailors_481 14 rfl ?_
                              refine G.callVg (pc := 483) (rest := []) (st1 := [.int (zPoorest y N (nI (zAhead y k21 N)))]) cx (k_poorest (l := l) (K := K) (sz := sz) (x := x) (z := y) (y := y) (s := s) (V := V) hI (nI (zAhead y k21 N))) ok_X9_poorest dL_areSailors_483 wm_ml_L_107 rfl xw_o rfl (Nat.le_of_ble_eq_true rfl) ⟨Nat.le_of_ble_eq_true rfl, Nat.le_of_ble_eq_true rfl⟩ ⟨Nat.le_of_ble_eq_true rfl, Nat.le_of_ble_eq_true rfl⟩ rfl ?_
                              refine G.iload (pc := 486) cx dL_areSailors_486 12 rfl ?_
                              refine G.icmp_eq (pc := 488) cx dL_areSailors_488 (tgt := 493) (by decide) (fun _ => ?_) (fun h9 => absurd (by exact po_place hI (by omega) cq376) h9)
                              refine G.iinc (pc := 493) cx dL_areSailors_493 (v := nI (k21 + 1)) (k := 12) rfl (nI_add k21 1) (by decide) rfl ?_
                              refine G.goto (pc := 496) cx dL_areSailors_496 (tgt := 21) (by decide) ?_
                              refine G.castL (lv' := [(0, .ref x), (1, .ref (x + 194)), (2, .ref (x + 195)), (3, .ref (x + 196)), (4, .ref (x + 197)), (5, .ref (x + 198)), (6, .int (nI (zTh y k21 + 1))), (7, .int ((rEs y k21) + (zEarn y k21))), (8, .int ((rCs y k21) + (((y (10 * k21 + 5)) + (y (10 * k21 + 6))) + (y (10 * k21 + 7))))), (9, .int ((zPaid y k21) + (if 0 < zBal y k21 then zBal y k21 else 0))), (10, .int ((zDebt y k21) + (if zBal y k21 < 0 then -(zBal y k21) else 0))), (11, .int ((zDSet y k21) ||| (if zBal y k21 < 0 then 1 <<< (nI k21 &&& 31) else 0))), (12, .int (nI (k21 + 1)))]) [2, 3, 4, 5, 6, 7, 8, 9, 10, 11, 12, 1, 0] rfl ?_
                              refine G.lv0 (lv2 := [(0, .ref x), (1, .ref (x + 194)), (2, .ref (x + 195)), (3, .ref (x + 196)), (4, .ref (x + 197)), (5, .ref (x + 198)), (6, .int (nI (zTh y (k21 + 1)))), (7, .int ((rEs y k21) + (zEarn y k21))), (8, .int ((rCs y k21) + (((y (10 * k21 + 5)) + (y (10 * k21 + 6))) + (y (10 * k21 + 7))))), (9, .int ((zPaid y k21) + (if 0 < zBal y k21 then zBal y k21 else 0))), (10, .int ((zDebt y k21) + (if zBal y k21 < 0 then -(zBal y k21) else 0))), (11, .int ((zDSet y k21) ||| (if zBal y k21 < 0 then 1 <<< (nI k21 &&& 31) else 0))), (12, .int (nI (k21 + 1)))]) (congrArg (fun q9 => ([(0, .ref x), (1, .ref (x + 194)), (2, .ref (x + 195)), (3, .ref (x + 196)), (4, .ref (x + 197)), (5, .ref (x + 198)), (6, .int q9), (7, .int ((rEs y k21) + (zEarn y k21))), (8, .int ((rCs y k21) + (((y (10 * k21 + 5)) + (y (10 * k21 + 6))) + (y (10 * k21 + 7))))), (9, .int ((zPaid y k21) + (if 0 < zBal y k21 then zBal y k21 else 0))), (10, .int ((zDebt y k21) + (if zBal y k21 < 0 then -(zBal y k21) else 0))), (11, .int ((zDSet y k21) ||| (if zBal y k21 < 0 then 1 <<< (nI k21 &&& 31) else 0))), (12, .int (nI (k21 + 1)))] : List (Nat × Value))) (show (nI (zTh y k21 + 1) : Int32) = nI (zTh y (k21 + 1)) from by first | exact as_th0 cq376 | exact as_e0 cq376 | exact as_c0 cq376 | exact as_p0 cq376 | exact as_d0 cq376 | exact as_s0 cq376 | exact as_th1 cq376 | exact as_e1 cq376 | exact as_c1 cq376 | exact as_p1 _ _ | exact as_d1 _ _ | exact as_s1 _ _)) ?_
                              refine G.lv0 (lv2 := [(0, .ref x), (1, .ref (x + 194)), (2, .ref (x + 195)), (3, .ref (x + 196)), (4, .ref (x + 197)), (5, .ref (x + 198)), (6, .int (nI (zTh y (k21 + 1)))), (7, .int (rEs y (k21 + 1))), (8, .int ((rCs y k21) + (((y (10 * k21 + 5)) + (y (10 * k21 + 6))) + (y (10 * k21 + 7))))), (9, .int ((zPaid y k21) + (if 0 < zBal y k21 then zBal y k21 else 0))), (10, .int ((zDebt y k21) + (if zBal y k21 < 0 then -(zBal y k21) else 0))), (11, .int ((zDSet y k21) ||| (if zBal y k21 < 0 then 1 <<< (nI k21 &&& 31) else 0))), (12, .int (nI (k21 + 1)))]) (congrArg (fun q9 => ([(0, .ref x), (1, .ref (x + 194)), (2, .ref (x + 195)), (3, .ref (x + 196)), (4, .ref (x + 197)), (5, .ref (x + 198)), (6, .int (nI (zTh y (k21 + 1)))), (7, .int q9), (8, .int ((rCs y k21) + (((y (10 * k21 + 5)) + (y (10 * k21 + 6))) + (y (10 * k21 + 7))))), (9, .int ((zPaid y k21) + (if 0 < zBal y k21 then zBal y k21 else 0))), (10, .int ((zDebt y k21) + (if zBal y k21 < 0 then -(zBal y k21) else 0))), (11, .int ((zDSet y k21) ||| (if zBal y k21 < 0 then 1 <<< (nI k21 &&& 31) else 0))), (12, .int (nI (k21 + 1)))] : List (Nat × Value))) (show ((rEs y k21) + (zEarn y k21) : Int32) = rEs y (k21 + 1) from by first | exact as_th0 cq376 | exact as_e0 cq376 | exact as_c0 cq376 | exact as_p0 cq376 | exact as_d0 cq376 | exact as_s0 cq376 | exact as_th1 cq376 | exact as_e1 cq376 | exact as_c1 cq376 | exact as_p1 _ _ | exact as_d1 _ _ | exact as_s1 _ _)) ?_
                              refine G.lv0 (lv2 := [(0, .ref x), (1, .ref (x + 194)), (2, .ref (x + 195)), (3, .ref (x + 196)), (4, .ref (x + 197)), (5, .ref (x + 198)), (6, .int (nI (zTh y (k21 + 1)))), (7, .int (rEs y (k21 + 1))), (8, .int (rCs y (k21 + 1))), (9, .int ((zPaid y k21) + (if 0 < zBal y k21 then zBal y k21 else 0))), (10, .int ((zDebt y k21) + (if zBal y k21 < 0 then -(zBal y k21) else 0))), (11, .int ((zDSet y k21) ||| (if zBal y k21 < 0 then 1 <<< (nI k21 &&& 31) else 0))), (12, .int (nI (k21 + 1)))]) (congrArg (fun q9 => ([(0, .ref x), (1, .ref (x + 194)), (2, .ref (x + 195)), (3, .ref (x + 196)), (4, .ref (x + 197)), (5, .ref (x + 198)), (6, .int (nI (zTh y (k21 + 1)))), (7, .int (rEs y (k21 + 1))), (8, .int q9), (9, .int ((zPaid y k21) + (if 0 < zBal y k21 then zBal y k21 else 0))), (10, .int ((zDebt y k21) + (if zBal y k21 < 0 then -(zBal y k21) else 0))), (11, .int ((zDSet y k21) ||| (if zBal y k21 < 0 then 1 <<< (nI k21 &&& 31) else 0))), (12, .int (nI (k21 + 1)))] : List (Nat × Value))) (show ((rCs y k21) + (((y (10 * k21 + 5)) + (y (10 * k21 + 6))) + (y (10 * k21 + 7))) : Int32) = rCs y (k21 + 1) from by first | exact as_th0 cq376 | exact as_e0 cq376 | exact as_c0 cq376 | exact as_p0 cq376 | exact as_d0 cq376 | exact as_s0 cq376 | exact as_th1 cq376 | exact as_e1 cq376 | exact as_c1 cq376 | exact as_p1 _ _ | exact as_d1 _ _ | exact as_s1 _ _)) ?_
                              refine G.lv0 (lv2 := [(0, .ref x), (1, .ref (x + 194)), (2, .ref (x + 195)), (3, .ref (x + 196)), (4, .ref (x + 197)), (5, .ref (x + 198)), (6, .int (nI (zTh y (k21 + 1)))), (7, .int (rEs y (k21 + 1))), (8, .int (rCs y (k21 + 1))), (9, .int (zPaid y (k21 + 1))), (10, .int ((zDebt y k21) + (if zBal y k21 < 0 then -(zBal y k21) else 0))), (11, .int ((zDSet y k21) ||| (if zBal y k21 < 0 then 1 <<< (nI k21 &&& 31) else 0))), (12, .int (nI (k21 + 1)))]) (congrArg (fun q9 => ([(0, .ref x), (1, .ref (x + 194)), (2, .ref (x + 195)), (3, .ref (x + 196)), (4, .ref (x + 197)), (5, .ref (x + 198)), (6, .int (nI (zTh y (k21 + 1)))), (7, .int (rEs y (k21 + 1))), (8, .int (rCs y (k21 + 1))), (9, .int q9), (10, .int ((zDebt y k21) + (if zBal y k21 < 0 then -(zBal y k21) else 0))), (11, .int ((zDSet y k21) ||| (if zBal y k21 < 0 then 1 <<< (nI k21 &&& 31) else 0))), (12, .int (nI (k21 + 1)))] : List (Nat × Value))) (show ((zPaid y k21) + (if 0 < zBal y k21 then zBal y k21 else 0) : Int32) = zPaid y (k21 + 1) from by first | exact as_th0 cq376 | exact as_e0 cq376 | exact as_c0 cq376 | exact as_p0 cq376 | exact as_d0 cq376 | exact as_s0 cq376 | exact as_th1 cq376 | exact as_e1 cq376 | exact as_c1 cq376 | exact as_p1 _ _ | exact as_d1 _ _ | exact as_s1 _ _)) ?_
                              refine G.lv0 (lv2 := [(0, .ref x), (1, .ref (x + 194)), (2, .ref (x + 195)), (3, .ref (x + 196)), (4, .ref (x + 197)), (5, .ref (x + 198)), (6, .int (nI (zTh y (k21 + 1)))), (7, .int (rEs y (k21 + 1))), (8, .int (rCs y (k21 + 1))), (9, .int (zPaid y (k21 + 1))), (10, .int (zDebt y (k21 + 1))), (11, .int ((zDSet y k21) ||| (if zBal y k21 < 0 then 1 <<< (nI k21 &&& 31) else 0))), (12, .int (nI (k21 + 1)))]) (congrArg (fun q9 => ([(0, .ref x), (1, .ref (x + 194)), (2, .ref (x + 195)), (3, .ref (x + 196)), (4, .ref (x + 197)), (5, .ref (x + 198)), (6, .int (nI (zTh y (k21 + 1)))), (7, .int (rEs y (k21 + 1))), (8, .int (rCs y (k21 + 1))), (9, .int (zPaid y (k21 + 1))), (10, .int q9), (11, .int ((zDSet y k21) ||| (if zBal y k21 < 0 then 1 <<< (nI k21 &&& 31) else 0))), (12, .int (nI (k21 + 1)))] : List (Nat × Value))) (show ((zDebt y k21) + (if zBal y k21 < 0 then -(zBal y k21) else 0) : Int32) = zDebt y (k21 + 1) from by first | exact as_th0 cq376 | exact as_e0 cq376 | exact as_c0 cq376 | exact as_p0 cq376 | exact as_d0 cq376 | exact as_s0 cq376 | exact as_th1 cq376 | exact as_e1 cq376 | exact as_c1 cq376 | exact as_p1 _ _ | exact as_d1 _ _ | exact as_s1 _ _)) ?_
                              refine G.lv0 (lv2 := [(0, .ref x), (1, .ref (x + 194)), (2, .ref (x + 195)), (3, .ref (x + 196)), (4, .ref (x + 197)), (5, .ref (x + 198)), (6, .int (nI (zTh y (k21 + 1)))), (7, .int (rEs y (k21 + 1))), (8, .int (rCs y (k21 + 1))), (9, .int (zPaid y (k21 + 1))), (10, .int (zDebt y (k21 + 1))), (11, .int (zDSet y (k21 + 1))), (12, .int (nI (k21 + 1)))]) (congrArg (fun q9 => ([(0, .ref x), (1, .ref (x + 194)), (2, .ref (x + 195)), (3, .ref (x + 196)), (4, .ref (x + 197)), (5, .ref (x + 198)), (6, .int (nI (zTh y (k21 + 1)))), (7, .int (rEs y (k21 + 1))), (8, .int (rCs y (k21 + 1))), (9, .int (zPaid y (k21 + 1))), (10, .int (zDebt y (k21 + 1))), (11, .int q9), (12, .int (nI (k21 + 1)))] : List (Nat × Value))) (show ((zDSet y k21) ||| (if zBal y k21 < 0 then 1 <<< (nI k21 &&& 31) else 0) : Int32) = zDSet y (k21 + 1) from by first | exact as_th0 cq376 | exact as_e0 cq376 | exact as_c0 cq376 | exact as_p0 cq376 | exact as_d0 cq376 | exact as_s0 cq376 | exact as_th1 cq376 | exact as_e1 cq376 | exact as_c1 cq376 | exact as_p1 _ _ | exact as_d1 _ _ | exact as_s1 _ _)) ?_
                              exact ih21 (k21 + 1) (by omega) (by omega)
                            refine G.if_ge (pc := 466) cx dL_areSailors_466 (tgt := 476) (by decide) (fun cq466 => ?_) (fun cq466 => ?_)
                            · skip
                              have nq466 := Int32.not_lt.mpr cq466
                              refine G.iconst (pc := 476) cx dL_areSailors_476 (v := 0) (by decide) ?_
                              refine G.castS (st' := [.int (if zBal y k21 < 0 then 1 <<< (nI k21 &&& 31) else 0), .int (zDSet y k21)]) (congrArg (fun q9 => ([.int q9, .int (zDSet y k21)] : List Value)) (show (0 : Int32) = if zBal y k21 < 0 then 1 <<< (nI k21 &&& 31) else 0 from by (try clear J477_7); (try clear J459_6); (try clear J442_5); (try clear J352_4); (try clear L120_3); (try clear ih120); (try clear L46_2); (try clear ih46); (try clear L21_1); (try clear ih21); (try clear hin9); (try clear cx); first | rfl | (refine b2_t ?_; grind) | (refine b2_f ?_; grind) | (refine (b2_t ?_).symm; grind) | (refine (b2_f ?_).symm; grind) | (simp [*]; done) | (simp_all; done) | grind)) ?_
                              refine G.castL (lv' := [(0, .ref x), (1, .ref (x + 194)), (2, .ref (x + 195)), (3, .ref (x + 196)), (4, .ref (x + 197)), (5, .ref (x + 198)), (6, .int (nI (zTh y k21 + 1))), (7, .int ((rEs y k21) + (zEarn y k21))), (8, .int ((rCs y k21) + (((y (10 * k21 + 5)) + (y (10 * k21 + 6))) + (y (10 * k21 + 7))))), (9, .int ((zPaid y k21) + (if 0 < zBal y k21 then zBal y k21 else 0))), (10, .int ((zDebt y k21) + (if zBal y k21 < 0 then -(zBal y k21) else 0))), (11, .int (zDSet y k21)), (12, .int (nI k21)), (13, .int (zBal y k21)), (14, .int (nI (zAhead y k21 N))), (15, .int (nI ((k21 + D) % 6))), (16, .int (nI (zMostF y k21 ((k21 + D) % 6) 99 0)))]) [1, 2, 3, 4, 5, 6, 7, 8, 9, 10, 0, 11, 12, 13, 14, 15, 16] rfl ?_
                              exact J477_7
                            · skip
                              have nq466 := Int32.not_le.mp cq466
                              refine G.iconst (pc := 469) cx dL_areSailors_469 (v := 1) (by decide) ?_
                              refine G.iload (pc := 470) cx dL_areSailors_470 12 rfl ?_
                              refine G.ishl (pc := 472) cx dL_areSailors_472 ?_
                              refine G.goto (pc := 473) cx dL_areSailors_473 (tgt := 477) (by decide) ?_
                              refine G.castS (st' := [.int (if zBal y k21 < 0 then 1 <<< (nI k21 &&& 31) else 0), .int (zDSet y k21)]) (congrArg (fun q9 => ([.int q9, .int (zDSet y k21)] : List Value)) (show (1 <<< ((nI k21) &&& 31) : Int32) = if zBal y k21 < 0 then 1 <<< (nI k21 &&& 31) else 0 from by (try clear J477_7); (try clear J459_6); (try clear J442_5); (try clear J352_4); (try clear L120_3); (try clear ih120); (try clear L46_2); (try clear ih46); (try clear L21_1); (try clear ih21); (try clear hin9); (try clear cx); first | rfl | (refine b2_t ?_; grind) | (refine b2_f ?_; grind) | (refine (b2_t ?_).symm; grind) | (refine (b2_f ?_).symm; grind) | (simp [*]; done) | (simp_all; done) | grind)) ?_
                              refine G.castL (lv' := [(0, .ref x), (1, .ref (x + 194)), (2, .ref (x + 195)), (3, .ref (x + 196)), (4, .ref (x + 197)), (5, .ref (x + 198)), (6, .int (nI (zTh y k21 + 1))), (7, .int ((rEs y k21) + (zEarn y k21))), (8, .int ((rCs y k21) + (((y (10 * k21 + 5)) + (y (10 * k21 + 6))) + (y (10 * k21 + 7))))), (9, .int ((zPaid y k21) + (if 0 < zBal y k21 then zBal y k21 else 0))), (10, .int ((zDebt y k21) + (if zBal y k21 < 0 then -(zBal y k21) else 0))), (11, .int (zDSet y k21)), (12, .int (nI k21)), (13, .int (zBal y k21)), (14, .int (nI (zAhead y k21 N))), (15, .int (nI ((k21 + D) % 6))), (16, .int (nI (zMostF y k21 ((k21 + D) % 6) 99 0)))]) [1, 2, 3, 4, 5, 6, 7, 8, 9, 10, 0, 11, 12, 13, 14, 15, 16] rfl ?_
                              exact J477_7
                          refine G.if_ge (pc := 449) cx dL_areSailors_449 (tgt := 458) (by decide) (fun cq449 => ?_) (fun cq449 => ?_)
                          · skip
                            have nq449 := Int32.not_lt.mpr cq449
                            refine G.iconst (pc := 458) cx dL_areSailors_458 (v := 0) (by decide) ?_
                            refine G.castS (st' := [.int (if zBal y k21 < 0 then -(zBal y k21) else 0), .int (zDebt y k21)]) (congrArg (fun q9 => ([.int q9, .int (zDebt y k21)] : List Value)) (show (0 : Int32) = if zBal y k21 < 0 then -(zBal y k21) else 0 from by (try clear J477_7); (try clear J459_6); (try clear J442_5); (try clear J352_4); (try clear L120_3); (try clear ih120); (try clear L46_2); (try clear ih46); (try clear L21_1); (try clear ih21); (try clear hin9); (try clear cx); first | rfl | (refine b2_t ?_; grind) | (refine b2_f ?_; grind) | (refine (b2_t ?_).symm; grind) | (refine (b2_f ?_).symm; grind) | (simp [*]; done) | (simp_all; done) | grind)) ?_
                            refine G.castL (lv' := [(0, .ref x), (1, .ref (x + 194)), (2, .ref (x + 195)), (3, .ref (x + 196)), (4, .ref (x + 197)), (5, .ref (x + 198)), (6, .int (nI (zTh y k21 + 1))), (7, .int ((rEs y k21) + (zEarn y k21))), (8, .int ((rCs y k21) + (((y (10 * k21 + 5)) + (y (10 * k21 + 6))) + (y (10 * k21 + 7))))), (9, .int ((zPaid y k21) + (if 0 < zBal y k21 then zBal y k21 else 0))), (10, .int (zDebt y k21)), (11, .int (zDSet y k21)), (12, .int (nI k21)), (13, .int (zBal y k21)), (14, .int (nI (zAhead y k21 N))), (15, .int (nI ((k21 + D) % 6))), (16, .int (nI (zMostF y k21 ((k21 + D) % 6) 99 0)))]) [1, 2, 3, 4, 5, 6, 7, 8, 9, 0, 10, 11, 12, 13, 14, 15, 16] rfl ?_
                            exact J459_6
                          · skip
                            have nq449 := Int32.not_le.mp cq449
                            refine G.iload (pc := 452) cx dL_areSailors_452 13 rfl ?_
                            refine G.ineg (pc := 454) cx dL_areSailors_454 ?_
                            refine G.goto (pc := 455) cx dL_areSailors_455 (tgt := 459) (by decide) ?_
                            refine G.castS (st' := [.int (if zBal y k21 < 0 then -(zBal y k21) else 0), .int (zDebt y k21)]) (congrArg (fun q9 => ([.int q9, .int (zDebt y k21)] : List Value)) (show (-(zBal y k21) : Int32) = if zBal y k21 < 0 then -(zBal y k21) else 0 from by (try clear J477_7); (try clear J459_6); (try clear J442_5); (try clear J352_4); (try clear L120_3); (try clear ih120); (try clear L46_2); (try clear ih46); (try clear L21_1); (try clear ih21); (try clear hin9); (try clear cx); first | rfl | (refine b2_t ?_; grind) | (refine b2_f ?_; grind) | (refine (b2_t ?_).symm; grind) | (refine (b2_f ?_).symm; grind) | (simp [*]; done) | (simp_all; done) | grind)) ?_
                            refine G.castL (lv' := [(0, .ref x), (1, .ref (x + 194)), (2, .ref (x + 195)), (3, .ref (x + 196)), (4, .ref (x + 197)), (5, .ref (x + 198)), (6, .int (nI (zTh y k21 + 1))), (7, .int ((rEs y k21) + (zEarn y k21))), (8, .int ((rCs y k21) + (((y (10 * k21 + 5)) + (y (10 * k21 + 6))) + (y (10 * k21 + 7))))), (9, .int ((zPaid y k21) + (if 0 < zBal y k21 then zBal y k21 else 0))), (10, .int (zDebt y k21)), (11, .int (zDSet y k21)), (12, .int (nI k21)), (13, .int (zBal y k21)), (14, .int (nI (zAhead y k21 N))), (15, .int (nI ((k21 + D) % 6))), (16, .int (nI (zMostF y k21 ((k21 + D) % 6) 99 0)))]) [1, 2, 3, 4, 5, 6, 7, 8, 9, 0, 10, 11, 12, 13, 14, 15, 16] rfl ?_
                            exact J459_6
                        refine G.if_le (pc := 433) cx dL_areSailors_433 (tgt := 441) (by decide) (fun cq433 => ?_) (fun cq433 => ?_)
                        · skip
                          have nq433 := Int32.not_lt.mpr cq433
                          refine G.iconst (pc := 441) cx dL_areSailors_441 (v := 0) (by decide) ?_
                          refine G.castS (st' := [.int (if 0 < zBal y k21 then zBal y k21 else 0), .int (zPaid y k21)]) (congrArg (fun q9 => ([.int q9, .int (zPaid y k21)] : List Value)) (show (0 : Int32) = if 0 < zBal y k21 then zBal y k21 else 0 from by (try clear J477_7); (try clear J459_6); (try clear J442_5); (try clear J352_4); (try clear L120_3); (try clear ih120); (try clear L46_2); (try clear ih46); (try clear L21_1); (try clear ih21); (try clear hin9); (try clear cx); first | rfl | (refine b2_t ?_; grind) | (refine b2_f ?_; grind) | (refine (b2_t ?_).symm; grind) | (refine (b2_f ?_).symm; grind) | (simp [*]; done) | (simp_all; done) | grind)) ?_
                          refine G.castL (lv' := [(0, .ref x), (1, .ref (x + 194)), (2, .ref (x + 195)), (3, .ref (x + 196)), (4, .ref (x + 197)), (5, .ref (x + 198)), (6, .int (nI (zTh y k21 + 1))), (7, .int ((rEs y k21) + (zEarn y k21))), (8, .int ((rCs y k21) + (((y (10 * k21 + 5)) + (y (10 * k21 + 6))) + (y (10 * k21 + 7))))), (9, .int (zPaid y k21)), (10, .int (zDebt y k21)), (11, .int (zDSet y k21)), (12, .int (nI k21)), (13, .int (zBal y k21)), (14, .int (nI (zAhead y k21 N))), (15, .int (nI ((k21 + D) % 6))), (16, .int (nI (zMostF y k21 ((k21 + D) % 6) 99 0)))]) [3, 4, 5, 6, 7, 8, 2, 1, 0, 9, 10, 11, 12, 13, 14, 15, 16] rfl ?_
                          exact J442_5
                        · skip
                          have nq433 := Int32.not_le.mp cq433
                          refine G.iload (pc := 436) cx dL_areSailors_436 13 rfl ?_
                          refine G.goto (pc := 438) cx dL_areSailors_438 (tgt := 442) (by decide) ?_
                          refine G.castS (st' := [.int (if 0 < zBal y k21 then zBal y k21 else 0), .int (zPaid y k21)]) (congrArg (fun q9 => ([.int q9, .int (zPaid y k21)] : List Value)) (show (zBal y k21 : Int32) = if 0 < zBal y k21 then zBal y k21 else 0 from by (try clear J477_7); (try clear J459_6); (try clear J442_5); (try clear J352_4); (try clear L120_3); (try clear ih120); (try clear L46_2); (try clear ih46); (try clear L21_1); (try clear ih21); (try clear hin9); (try clear cx); first | rfl | (refine b2_t ?_; grind) | (refine b2_f ?_; grind) | (refine (b2_t ?_).symm; grind) | (refine (b2_f ?_).symm; grind) | (simp [*]; done) | (simp_all; done) | grind)) ?_
                          refine G.castL (lv' := [(0, .ref x), (1, .ref (x + 194)), (2, .ref (x + 195)), (3, .ref (x + 196)), (4, .ref (x + 197)), (5, .ref (x + 198)), (6, .int (nI (zTh y k21 + 1))), (7, .int ((rEs y k21) + (zEarn y k21))), (8, .int ((rCs y k21) + (((y (10 * k21 + 5)) + (y (10 * k21 + 6))) + (y (10 * k21 + 7))))), (9, .int (zPaid y k21)), (10, .int (zDebt y k21)), (11, .int (zDSet y k21)), (12, .int (nI k21)), (13, .int (zBal y k21)), (14, .int (nI (zAhead y k21 N))), (15, .int (nI ((k21 + D) % 6))), (16, .int (nI (zMostF y k21 ((k21 + D) % 6) 99 0)))]) [3, 4, 5, 6, 7, 8, 2, 1, 0, 9, 10, 11, 12, 13, 14, 15, 16] rfl ?_
                          exact J442_5
                      · skip
                        refine G.goto (pc := 379) cx dL_areSailors_379 (tgt := 493) (by decide) ?_
                        refine G.iinc (pc := 493) cx dL_areSailors_493 (v := nI (k21 + 1)) (k := 12) rfl (nI_add k21 1) (by decide) rfl ?_
                        refine G.goto (pc := 496) cx dL_areSailors_496 (tgt := 21) (by decide) ?_
                        refine G.castL (lv' := [(0, .ref x), (1, .ref (x + 194)), (2, .ref (x + 195)), (3, .ref (x + 196)), (4, .ref (x + 197)), (5, .ref (x + 198)), (6, .int (nI (zTh y k21))), (7, .int (rEs y k21)), (8, .int (rCs y k21)), (9, .int (zPaid y k21)), (10, .int (zDebt y k21)), (11, .int (zDSet y k21)), (12, .int (nI (k21 + 1)))]) [1, 2, 3, 4, 5, 6, 7, 8, 9, 10, 11, 12, 0] rfl ?_
                        refine G.lv0 (lv2 := [(0, .ref x), (1, .ref (x + 194)), (2, .ref (x + 195)), (3, .ref (x + 196)), (4, .ref (x + 197)), (5, .ref (x + 198)), (6, .int (nI (zTh y (k21 + 1)))), (7, .int (rEs y k21)), (8, .int (rCs y k21)), (9, .int (zPaid y k21)), (10, .int (zDebt y k21)), (11, .int (zDSet y k21)), (12, .int (nI (k21 + 1)))]) (congrArg (fun q9 => ([(0, .ref x), (1, .ref (x + 194)), (2, .ref (x + 195)), (3, .ref (x + 196)), (4, .ref (x + 197)), (5, .ref (x + 198)), (6, .int q9), (7, .int (rEs y k21)), (8, .int (rCs y k21)), (9, .int (zPaid y k21)), (10, .int (zDebt y k21)), (11, .int (zDSet y k21)), (12, .int (nI (k21 + 1)))] : List (Nat × Value))) (show (nI (zTh y k21) : Int32) = nI (zTh y (k21 + 1)) from by first | exact as_th0 cq376 | exact as_e0 cq376 | exact as_c0 cq376 | exact as_p0 cq376 | exact as_d0 cq376 | exact as_s0 cq376 | exact as_th1 cq376 | exact as_e1 cq376 | exact as_c1 cq376 | exact as_p1 _ _ | exact as_d1 _ _ | exact as_s1 _ _)) ?_
                        refine G.lv0 (lv2 := [(0, .ref x), (1, .ref (x + 194)), (2, .ref (x + 195)), (3, .ref (x + 196)), (4, .ref (x + 197)), (5, .ref (x + 198)), (6, .int (nI (zTh y (k21 + 1)))), (7, .int (rEs y (k21 + 1))), (8, .int (rCs y k21)), (9, .int (zPaid y k21)), (10, .int (zDebt y k21)), (11, .int (zDSet y k21)), (12, .int (nI (k21 + 1)))]) (congrArg (fun q9 => ([(0, .ref x), (1, .ref (x + 194)), (2, .ref (x + 195)), (3, .ref (x + 196)), (4, .ref (x + 197)), (5, .ref (x + 198)), (6, .int (nI (zTh y (k21 + 1)))), (7, .int q9), (8, .int (rCs y k21)), (9, .int (zPaid y k21)), (10, .int (zDebt y k21)), (11, .int (zDSet y k21)), (12, .int (nI (k21 + 1)))] : List (Nat × Value))) (show (rEs y k21 : Int32) = rEs y (k21 + 1) from by first | exact as_th0 cq376 | exact as_e0 cq376 | exact as_c0 cq376 | exact as_p0 cq376 | exact as_d0 cq376 | exact as_s0 cq376 | exact as_th1 cq376 | exact as_e1 cq376 | exact as_c1 cq376 | exact as_p1 _ _ | exact as_d1 _ _ | exact as_s1 _ _)) ?_
                        refine G.lv0 (lv2 := [(0, .ref x), (1, .ref (x + 194)), (2, .ref (x + 195)), (3, .ref (x + 196)), (4, .ref (x + 197)), (5, .ref (x + 198)), (6, .int (nI (zTh y (k21 + 1)))), (7, .int (rEs y (k21 + 1))), (8, .int (rCs y (k21 + 1))), (9, .int (zPaid y k21)), (10, .int (zDebt y k21)), (11, .int (zDSet y k21)), (12, .int (nI (k21 + 1)))]) (congrArg (fun q9 => ([(0, .ref x), (1, .ref (x + 194)), (2, .ref (x + 195)), (3, .ref (x + 196)), (4, .ref (x + 197)), (5, .ref (x + 198)), (6, .int (nI (zTh y (k21 + 1)))), (7, .int (rEs y (k21 + 1))), (8, .int q9), (9, .int (zPaid y k21)), (10, .int (zDebt y k21)), (11, .int (zDSet y k21)), (12, .int (nI (k21 + 1)))] : List (Nat × Value))) (show (rCs y k21 : Int32) = rCs y (k21 + 1) from by first | exact as_th0 cq376 | exact as_e0 cq376 | exact as_c0 cq376 | exact as_p0 cq376 | exact as_d0 cq376 | exact as_s0 cq376 | exact as_th1 cq376 | exact as_e1 cq376 | exact as_c1 cq376 | exact as_p1 _ _ | exact as_d1 _ _ | exact as_s1 _ _)) ?_
                        refine G.lv0 (lv2 := [(0, .ref x), (1, .ref (x + 194)), (2, .ref (x + 195)), (3, .ref (x + 196)), (4, .ref (x + 197)), (5, .ref (x + 198)), (6, .int (nI (zTh y (k21 + 1)))), (7, .int (rEs y (k21 + 1))), (8, .int (rCs y (k21 + 1))), (9, .int (zPaid y (k21 + 1))), (10, .int (zDebt y k21)), (11, .int (zDSet y k21)), (12, .int (nI (k21 + 1)))]) (congrArg (fun q9 => ([(0, .ref x), (1, .ref (x + 194)), (2, .ref (x + 195)), (3, .ref (x + 196)), (4, .ref (x + 197)), (5, .ref (x + 198)), (6, .int (nI (zTh y (k21 + 1)))), (7, .int (rEs y (k21 + 1))), (8, .int (rCs y (k21 + 1))), (9, .int q9), (10, .int (zDebt y k21)), (11, .int (zDSet y k21)), (12, .int (nI (k21 + 1)))] : List (Nat × Value))) (show (zPaid y k21 : Int32) = zPaid y (k21 + 1) from by first | exact as_th0 cq376 | exact as_e0 cq376 | exact as_c0 cq376 | exact as_p0 cq376 | exact as_d0 cq376 | exact as_s0 cq376 | exact as_th1 cq376 | exact as_e1 cq376 | exact as_c1 cq376 | exact as_p1 _ _ | exact as_d1 _ _ | exact as_s1 _ _)) ?_
                        refine G.lv0 (lv2 := [(0, .ref x), (1, .ref (x + 194)), (2, .ref (x + 195)), (3, .ref (x + 196)), (4, .ref (x + 197)), (5, .ref (x + 198)), (6, .int (nI (zTh y (k21 + 1)))), (7, .int (rEs y (k21 + 1))), (8, .int (rCs y (k21 + 1))), (9, .int (zPaid y (k21 + 1))), (10, .int (zDebt y (k21 + 1))), (11, .int (zDSet y k21)), (12, .int (nI (k21 + 1)))]) (congrArg (fun q9 => ([(0, .ref x), (1, .ref (x + 194)), (2, .ref (x + 195)), (3, .ref (x + 196)), (4, .ref (x + 197)), (5, .ref (x + 198)), (6, .int (nI (zTh y (k21 + 1)))), (7, .int (rEs y (k21 + 1))), (8, .int (rCs y (k21 + 1))), (9, .int (zPaid y (k21 + 1))), (10, .int q9), (11, .int (zDSet y k21)), (12, .int (nI (k21 + 1)))] : List (Nat × Value))) (show (zDebt y k21 : Int32) = zDebt y (k21 + 1) from by first | exact as_th0 cq376 | exact as_e0 cq376 | exact as_c0 cq376 | exact as_p0 cq376 | exact as_d0 cq376 | exact as_s0 cq376 | exact as_th1 cq376 | exact as_e1 cq376 | exact as_c1 cq376 | exact as_p1 _ _ | exact as_d1 _ _ | exact as_s1 _ _)) ?_
                        refine G.lv0 (lv2 := [(0, .ref x), (1, .ref (x + 194)), (2, .ref (x + 195)), (3, .ref (x + 196)), (4, .ref (x + 197)), (5, .ref (x + 198)), (6, .int (nI (zTh y (k21 + 1)))), (7, .int (rEs y (k21 + 1))), (8, .int (rCs y (k21 + 1))), (9, .int (zPaid y (k21 + 1))), (10, .int (zDebt y (k21 + 1))), (11, .int (zDSet y (k21 + 1))), (12, .int (nI (k21 + 1)))]) (congrArg (fun q9 => ([(0, .ref x), (1, .ref (x + 194)), (2, .ref (x + 195)), (3, .ref (x + 196)), (4, .ref (x + 197)), (5, .ref (x + 198)), (6, .int (nI (zTh y (k21 + 1)))), (7, .int (rEs y (k21 + 1))), (8, .int (rCs y (k21 + 1))), (9, .int (zPaid y (k21 + 1))), (10, .int (zDebt y (k21 + 1))), (11, .int q9), (12, .int (nI (k21 + 1)))] : List (Nat × Value))) (show (zDSet y k21 : Int32) = zDSet y (k21 + 1) from by first | exact as_th0 cq376 | exact as_e0 cq376 | exact as_c0 cq376 | exact as_p0 cq376 | exact as_d0 cq376 | exact as_s0 cq376 | exact as_th1 cq376 | exact as_e1 cq376 | exact as_c1 cq376 | exact as_p1 _ _ | exact as_d1 _ _ | exact as_s1 _ _)) ?_
                        exact ih21 (k21 + 1) (by omega) (by omega)
                    refine G.iconst (pc := 315) cx dL_areSailors_315 (v := 0) (by decide) ?_
                    refine G.istore (pc := 316) cx dL_areSailors_316 (by decide) rfl ?_
                    have L318_8 : ∀ (fz k318 : Nat), 99 - k318 < fz → k318 ≤ 99 → (zMostF y k21 ((k21 + D) % 6) (99 - k318) k318 = zMostF y k21 ((k21 + D) % 6) 99 0) → G K p9 l e9 (rmL 7 0 0) s9 m9 a9 b9 t9 c9 (MQ b9 (QCt K (some (.int 1)) (xwL K x y s y V) sz) a9 s9 0 0 (kA K)) 17 (xwL K x y s y V) sz 0 0 318 [(15, .int (nI ((k21 + D) % 6))), (13, .int (zBal y k21)), (0, .ref x), (1, .ref (x + 194)), (2, .ref (x + 195)), (3, .ref (x + 196)), (4, .ref (x + 197)), (5, .ref (x + 198)), (6, .int (nI (zTh y k21))), (7, .int (rEs y k21)), (8, .int (rCs y k21)), (9, .int (zPaid y k21)), (10, .int (zDebt y k21)), (11, .int (zDSet y k21)), (12, .int (nI k21)), (14, .int (nI (zAhead y k21 N))), (16, .int (nI k318))] [] := by
                      intro fz
                      induction fz with
                      | zero => intro k318 h9; omega
                      | succ fz ih318 =>
                        intro k318 h9318 h8318 hM
                        refine G.iload (pc := 318) cx dL_areSailors_318 16 rfl ?_
                        refine G.bipush (pc := 320) cx dL_areSailors_320 (v := 99) (by decide) ?_
                        refine G.icmp_geN (pc := 322) cx k318 99 (by omega) (by omega) dL_areSailors_322 (tgt := 352) (by decide) (fun cq322 => ?_) (fun cq322 => ?_)
                        · skip
                          have nq322 := Nat.not_lt.mpr cq322
                          have ex318 : k318 = 99 := by omega
                          try rw [ex318]
                          refine G.castL (lv' := [(0, .ref x), (1, .ref (x + 194)), (2, .ref (x + 195)), (3, .ref (x + 196)), (4, .ref (x + 197)), (5, .ref (x + 198)), (6, .int (nI (zTh y k21))), (7, .int (rEs y k21)), (8, .int (rCs y k21)), (9, .int (zPaid y k21)), (10, .int (zDebt y k21)), (11, .int (zDSet y k21)), (12, .int (nI k21)), (13, .int (zBal y k21)), (14, .int (nI (zAhead y k21 N))), (15, .int (nI ((k21 + D) % 6))), (16, .int (nI 99))]) [2, 3, 4, 5, 6, 7, 8, 9, 10, 11, 12, 13, 14, 1, 15, 0, 16] rfl ?_
                          refine G.lv0 (lv2 := [(0, .ref x), (1, .ref (x + 194)), (2, .ref (x + 195)), (3, .ref (x + 196)), (4, .ref (x + 197)), (5, .ref (x + 198)), (6, .int (nI (zTh y k21))), (7, .int (rEs y k21)), (8, .int (rCs y k21)), (9, .int (zPaid y k21)), (10, .int (zDebt y k21)), (11, .int (zDSet y k21)), (12, .int (nI k21)), (13, .int (zBal y k21)), (14, .int (nI (zAhead y k21 N))), (15, .int (nI ((k21 + D) % 6))), (16, .int (nI (zMostF y k21 ((k21 + D) % 6) 99 0)))]) (congrArg (fun q9 => ([(0, .ref x), (1, .ref (x + 194)), (2, .ref (x + 195)), (3, .ref (x + 196)), (4, .ref (x + 197)), (5, .ref (x + 198)), (6, .int (nI (zTh y k21))), (7, .int (rEs y k21)), (8, .int (rCs y k21)), (9, .int (zPaid y k21)), (10, .int (zDebt y k21)), (11, .int (zDSet y k21)), (12, .int (nI k21)), (13, .int (zBal y k21)), (14, .int (nI (zAhead y k21 N))), (15, .int (nI ((k21 + D) % 6))), (16, .int q9)] : List (Nat × Value))) (show (nI 99 : Int32) = nI (zMostF y k21 ((k21 + D) % 6) 99 0) from by first | exact congrArg nI ((most_end (Or.inr (fun q => cq343 ((law_why hI (by omega) (by omega) (by omega)).trans q))) (by omega)).symm.trans hM) | exact congrArg nI (ex318.symm.trans ((most_end (Or.inl ex318) (by omega)).symm.trans hM)))) ?_
                          exact J352_4
                        · skip
                          have nq322 := Nat.not_le.mpr cq322
                          refine G.aload_n (pc := 325) cx dL_areSailors_325 rfl 3 rfl ?_
                          refine G.aload_n (pc := 326) cx dL_areSailors_326 rfl 4 rfl ?_
                          refine G.aload_n (pc := 327) cx dL_areSailors_327 rfl 5 rfl ?_
                          refine G.aload (pc := 328) cx dL_areSailors_328 6 rfl ?_
                          refine G.aload (pc := 330) cx dL_areSailors_330 7 rfl ?_
                          refine G.iload (pc := 332) cx dL_areSailors_332 14 rfl ?_
                          refine G.iload (pc := 334) cx dL_areSailors_334 0 rfl ?_
                          refine G.iload (pc := 336) cx dL_areSailors_336 16 rfl ?_
                          refine G.iconst (pc := 338) cx dL_areSailors_338 (v := 1) (by decide) ?_
                          refine G.iaddN (pc := 339) cx dL_areSailors_339 k318 1 ?_
                          refine G.callSg (pc := 340) (rest := []) (st1 := [.int (lWhy y k21 ((k21 + D) % 6) (nI (k318 + 1)))]) cx (c_L_why l K sz x y s y V k21 ((k21 + D) % 6) (nI (k318 + 1)) (by omega) (by omega)) ok_L_why dL_areSailors_340 wm_ml_L_43 rfl rfl (Nat.le_of_ble_eq_true rfl) ⟨Nat.le_of_ble_eq_true rfl, Nat.le_of_ble_eq_true rfl⟩ ⟨Nat.le_of_ble_eq_true rfl, Nat.le_of_ble_eq_true rfl⟩ rfl ?_
                          refine G.if_ne (pc := 343) cx dL_areSailors_343 (tgt := 352) (by decide) (fun cq343 => ?_) (fun cq343 => ?_)
                          · skip
                            refine G.castL (lv' := [(0, .ref x), (1, .ref (x + 194)), (2, .ref (x + 195)), (3, .ref (x + 196)), (4, .ref (x + 197)), (5, .ref (x + 198)), (6, .int (nI (zTh y k21))), (7, .int (rEs y k21)), (8, .int (rCs y k21)), (9, .int (zPaid y k21)), (10, .int (zDebt y k21)), (11, .int (zDSet y k21)), (12, .int (nI k21)), (13, .int (zBal y k21)), (14, .int (nI (zAhead y k21 N))), (15, .int (nI ((k21 + D) % 6))), (16, .int (nI k318))]) [2, 3, 4, 5, 6, 7, 8, 9, 10, 11, 12, 13, 14, 1, 15, 0, 16] rfl ?_
                            refine G.lv0 (lv2 := [(0, .ref x), (1, .ref (x + 194)), (2, .ref (x + 195)), (3, .ref (x + 196)), (4, .ref (x + 197)), (5, .ref (x + 198)), (6, .int (nI (zTh y k21))), (7, .int (rEs y k21)), (8, .int (rCs y k21)), (9, .int (zPaid y k21)), (10, .int (zDebt y k21)), (11, .int (zDSet y k21)), (12, .int (nI k21)), (13, .int (zBal y k21)), (14, .int (nI (zAhead y k21 N))), (15, .int (nI ((k21 + D) % 6))), (16, .int (nI (zMostF y k21 ((k21 + D) % 6) 99 0)))]) (congrArg (fun q9 => ([(0, .ref x), (1, .ref (x + 194)), (2, .ref (x + 195)), (3, .ref (x + 196)), (4, .ref (x + 197)), (5, .ref (x + 198)), (6, .int (nI (zTh y k21))), (7, .int (rEs y k21)), (8, .int (rCs y k21)), (9, .int (zPaid y k21)), (10, .int (zDebt y k21)), (11, .int (zDSet y k21)), (12, .int (nI k21)), (13, .int (zBal y k21)), (14, .int (nI (zAhead y k21 N))), (15, .int (nI ((k21 + D) % 6))), (16, .int q9)] : List (Nat × Value))) (show (nI k318 : Int32) = nI (zMostF y k21 ((k21 + D) % 6) 99 0) from by first | exact congrArg nI ((most_end (Or.inr (fun q => cq343 ((law_why hI (by omega) (by omega) (by omega)).trans q))) (by omega)).symm.trans hM) | exact congrArg nI (ex318.symm.trans ((most_end (Or.inl ex318) (by omega)).symm.trans hM)))) ?_
                            exact J352_4
                          · skip
                            refine G.iinc (pc := 346) cx dL_areSailors_346 (v := nI (k318 + 1)) (k := 16) rfl (nI_add k318 1) (by decide) rfl ?_
                            refine G.goto (pc := 349) cx dL_areSailors_349 (tgt := 318) (by decide) ?_
                            refine G.castL (lv' := [(15, .int (nI ((k21 + D) % 6))), (13, .int (zBal y k21)), (0, .ref x), (1, .ref (x + 194)), (2, .ref (x + 195)), (3, .ref (x + 196)), (4, .ref (x + 197)), (5, .ref (x + 198)), (6, .int (nI (zTh y k21))), (7, .int (rEs y k21)), (8, .int (rCs y k21)), (9, .int (zPaid y k21)), (10, .int (zDebt y k21)), (11, .int (zDSet y k21)), (12, .int (nI k21)), (14, .int (nI (zAhead y k21 N))), (16, .int (nI (k318 + 1)))]) [1, 2, 3, 4, 5, 6, 7, 8, 9, 10, 11, 12, 13, 14, 15, 16, 0] rfl ?_
                            exact ih318 (k318 + 1) (by omega) (by omega) (by exact (most_step ((law_why hI (by omega) (by omega) (by omega)).symm.trans cq343) (by omega)).symm.trans hM)
                    refine G.castL (lv' := [(15, .int (nI ((k21 + D) % 6))), (13, .int (zBal y k21)), (0, .ref x), (1, .ref (x + 194)), (2, .ref (x + 195)), (3, .ref (x + 196)), (4, .ref (x + 197)), (5, .ref (x + 198)), (6, .int (nI (zTh y k21))), (7, .int (rEs y k21)), (8, .int (rCs y k21)), (9, .int (zPaid y k21)), (10, .int (zDebt y k21)), (11, .int (zDSet y k21)), (12, .int (nI k21)), (14, .int (nI (zAhead y k21 N))), (16, .int 0)]) [1, 2, 3, 4, 5, 6, 7, 8, 9, 10, 11, 12, 13, 14, 15, 16, 0] rfl ?_
                    refine G.lv0 (lv2 := [(15, .int (nI ((k21 + D) % 6))), (13, .int (zBal y k21)), (0, .ref x), (1, .ref (x + 194)), (2, .ref (x + 195)), (3, .ref (x + 196)), (4, .ref (x + 197)), (5, .ref (x + 198)), (6, .int (nI (zTh y k21))), (7, .int (rEs y k21)), (8, .int (rCs y k21)), (9, .int (zPaid y k21)), (10, .int (zDebt y k21)), (11, .int (zDSet y k21)), (12, .int (nI k21)), (14, .int (nI (zAhead y k21 N))), (16, .int (nI 0))]) (congrArg (fun q9 => ([(15, .int (nI ((k21 + D) % 6))), (13, .int (zBal y k21)), (0, .ref x), (1, .ref (x + 194)), (2, .ref (x + 195)), (3, .ref (x + 196)), (4, .ref (x + 197)), (5, .ref (x + 198)), (6, .int (nI (zTh y k21))), (7, .int (rEs y k21)), (8, .int (rCs y k21)), (9, .int (zPaid y k21)), (10, .int (zDebt y k21)), (11, .int (zDSet y k21)), (12, .int (nI k21)), (14, .int (nI (zAhead y k21 N))), (16, .int q9)] : List (Nat × Value))) (show (0 : Int32) = nI 0 from by rfl)) ?_
                    exact L318_8 (99 + 1) 0 (by omega) (by omega) (by rfl)
                  · skip
                    have nq123 := Nat.not_le.mpr cq123
                    refine G.aload_n (pc := 126) cx dL_areSailors_126 rfl 1 rfl ?_
                    refine G.iload (pc := 127) cx dL_areSailors_127 13 rfl ?_
                    refine G.iload (pc := 129) cx dL_areSailors_129 15 rfl ?_
                    refine G.callVg (pc := 131) (rest := []) (st1 := [.int (zSailor y (nI k21) (nI k120))]) cx (k_sailor (l := l) (K := K) (sz := sz) (x := x) (z := y) (y := y) (s := s) (V := V) hI (nI k21) (nI k120)) ok_X9_sailor dL_areSailors_131 wm_ml_L_101 rfl xw_o rfl (Nat.le_of_ble_eq_true rfl) ⟨Nat.le_of_ble_eq_true rfl, Nat.le_of_ble_eq_true rfl⟩ ⟨Nat.le_of_ble_eq_true rfl, Nat.le_of_ble_eq_true rfl⟩ rfl ?_
                    refine G.aload_n (pc := 134) cx dL_areSailors_134 rfl 3 rfl ?_
                    refine G.iconst (pc := 135) cx dL_areSailors_135 (v := 3) (by decide) ?_
                    refine G.iload (pc := 136) cx dL_areSailors_136 13 rfl ?_
                    refine G.imulN (pc := 138) cx dL_areSailors_138 3 k21 ?_
                    refine G.iload (pc := 139) cx dL_areSailors_139 15 rfl ?_
                    refine G.iaddN (pc := 141) cx dL_areSailors_141 (3 * k21) k120 ?_
                    refine G.ialdV (pc := 142) cx dL_areSailors_142 xl_a (j := ((3 * k21) + k120)) rfl (by omega) (by decide) (xr_a (n := 10 * k21 + k120) (by omega) (by omega)) ?_
                    refine G.icmp_ne (pc := 143) cx dL_areSailors_143 (tgt := 170) (by decide) (fun h9 => absurd (by exact sa_a hI (by omega) (by omega)) h9) (fun _ => ?_)
                    refine G.aload_n (pc := 146) cx dL_areSailors_146 rfl 1 rfl ?_
                    refine G.iload (pc := 147) cx dL_areSailors_147 13 rfl ?_
                    refine G.bipush (pc := 149) cx dL_areSailors_149 (v := 8) (by decide) ?_
                    refine G.iload (pc := 151) cx dL_areSailors_151 15 rfl ?_
                    refine G.iaddN (pc := 153) cx dL_areSailors_153 8 k120 ?_
                    refine G.callVg (pc := 154) (rest := []) (st1 := [.int (zSailor y (nI k21) (nI (8 + k120)))]) cx (k_sailor (l := l) (K := K) (sz := sz) (x := x) (z := y) (y := y) (s := s) (V := V) hI (nI k21) (nI (8 + k120))) ok_X9_sailor dL_areSailors_154 wm_ml_L_101 rfl xw_o rfl (Nat.le_of_ble_eq_true rfl) ⟨Nat.le_of_ble_eq_true rfl, Nat.le_of_ble_eq_true rfl⟩ ⟨Nat.le_of_ble_eq_true rfl, Nat.le_of_ble_eq_true rfl⟩ rfl ?_
                    refine G.aload (pc := 157) cx dL_areSailors_157 5 rfl ?_
                    refine G.iconst (pc := 159) cx dL_areSailors_159 (v := 3) (by decide) ?_
                    refine G.iload (pc := 160) cx dL_areSailors_160 13 rfl ?_
                    refine G.imulN (pc := 162) cx dL_areSailors_162 3 k21 ?_
                    refine G.iload (pc := 163) cx dL_areSailors_163 15 rfl ?_
                    refine G.iaddN (pc := 165) cx dL_areSailors_165 (3 * k21) k120 ?_
                    refine G.ialdV (pc := 166) cx dL_areSailors_166 xl_c (j := ((3 * k21) + k120)) rfl (by omega) (by decide) (xr_c (n := 10 * k21 + (5 + k120)) (by omega) (by omega)) ?_
                    refine G.icmp_eq (pc := 167) cx dL_areSailors_167 (tgt := 172) (by decide) (fun _ => ?_) (fun h9 => absurd (by exact sa_c hI (by omega) (by omega)) h9)
                    refine G.iinc (pc := 172) cx dL_areSailors_172 (v := nI (k120 + 1)) (k := 15) rfl (nI_add k120 1) (by decide) rfl ?_
                    refine G.goto (pc := 175) cx dL_areSailors_175 (tgt := 120) (by decide) ?_
                    refine G.castL (lv' := [(13, .int (zBal y k21)), (0, .ref x), (1, .ref (x + 194)), (2, .ref (x + 195)), (3, .ref (x + 196)), (4, .ref (x + 197)), (5, .ref (x + 198)), (6, .int (nI (zTh y k21))), (7, .int (rEs y k21)), (8, .int (rCs y k21)), (9, .int (zPaid y k21)), (10, .int (zDebt y k21)), (11, .int (zDSet y k21)), (12, .int (nI k21)), (14, .int (nI (zAhead y k21 N))), (15, .int (nI (k120 + 1)))]) [1, 2, 3, 4, 5, 6, 7, 8, 9, 10, 11, 12, 13, 14, 15, 0] rfl ?_
                    exact ih120 (k120 + 1) (by omega) (by omega)
              refine G.castL (lv' := [(13, .int (zBal y k21)), (0, .ref x), (1, .ref (x + 194)), (2, .ref (x + 195)), (3, .ref (x + 196)), (4, .ref (x + 197)), (5, .ref (x + 198)), (6, .int (nI (zTh y k21))), (7, .int (rEs y k21)), (8, .int (rCs y k21)), (9, .int (zPaid y k21)), (10, .int (zDebt y k21)), (11, .int (zDSet y k21)), (12, .int (nI k21)), (14, .int (nI (zAhead y k21 N))), (15, .int 0)]) [1, 2, 3, 4, 5, 6, 7, 8, 9, 10, 11, 12, 13, 14, 15, 0] rfl ?_
              refine G.lv0 (lv2 := [(13, .int (zBal y k21)), (0, .ref x), (1, .ref (x + 194)), (2, .ref (x + 195)), (3, .ref (x + 196)), (4, .ref (x + 197)), (5, .ref (x + 198)), (6, .int (nI (zTh y k21))), (7, .int (rEs y k21)), (8, .int (rCs y k21)), (9, .int (zPaid y k21)), (10, .int (zDebt y k21)), (11, .int (zDSet y k21)), (12, .int (nI k21)), (14, .int (nI (zAhead y k21 N))), (15, .int (nI 0))]) (congrArg (fun q9 => ([(13, .int (zBal y k21)), (0, .ref x), (1, .ref (x + 194)), (2, .ref (x + 195)), (3, .ref (x + 196)), (4, .ref (x + 197)), (5, .ref (x + 198)), (6, .int (nI (zTh y k21))), (7, .int (rEs y k21)), (8, .int (rCs y k21)), (9, .int (zPaid y k21)), (10, .int (zDebt y k21)), (11, .int (zDSet y k21)), (12, .int (nI k21)), (14, .int (nI (zAhead y k21 N))), (15, .int q9)] : List (Nat × Value))) (show (0 : Int32) = nI 0 from by rfl)) ?_
              exact L120_3 (3 + 1) 0 (by omega) (by omega)
            · skip
              have nq51 := Nat.not_le.mpr cq51
              refine G.iload (pc := 54) cx dL_areSailors_54 14 rfl ?_
              refine G.aload_n (pc := 56) cx dL_areSailors_56 rfl 3 rfl ?_
              refine G.iconst (pc := 57) cx dL_areSailors_57 (v := 3) (by decide) ?_
              refine G.iload (pc := 58) cx dL_areSailors_58 15 rfl ?_
              refine G.imulN (pc := 60) cx dL_areSailors_60 3 k46 ?_
              refine G.iconst (pc := 61) cx dL_areSailors_61 (v := 2) (by decide) ?_
              refine G.iaddN (pc := 62) cx dL_areSailors_62 (3 * k46) 2 ?_
              refine G.ialdV (pc := 63) cx dL_areSailors_63 xl_a (j := ((3 * k46) + 2)) rfl (by omega) (by decide) (xr_a (n := 10 * k46 + 2) (by omega) (by omega)) ?_
              refine G.iconst (pc := 64) cx dL_areSailors_64 (v := 2) (by decide) ?_
              refine G.icmp_ge (pc := 65) cx dL_areSailors_65 (tgt := 107) (by decide) (fun cq65 => ?_) (fun cq65 => ?_)
              · skip
                have nq65 := Int32.not_lt.mpr cq65
                refine G.iconst (pc := 107) cx dL_areSailors_107 (v := 0) (by decide) ?_
                refine G.iaddN (pc := 108) cx dL_areSailors_108 (zAhead y k21 k46) 0 ?_
                refine G.istore (pc := 109) cx dL_areSailors_109 (by decide) rfl ?_
                refine G.iinc (pc := 111) cx dL_areSailors_111 (v := nI (k46 + 1)) (k := 15) rfl (nI_add k46 1) (by decide) rfl ?_
                refine G.goto (pc := 114) cx dL_areSailors_114 (tgt := 46) (by decide) ?_
                refine G.castL (lv' := [(13, .int (zBal y k21)), (0, .ref x), (1, .ref (x + 194)), (2, .ref (x + 195)), (3, .ref (x + 196)), (4, .ref (x + 197)), (5, .ref (x + 198)), (6, .int (nI (zTh y k21))), (7, .int (rEs y k21)), (8, .int (rCs y k21)), (9, .int (zPaid y k21)), (10, .int (zDebt y k21)), (11, .int (zDSet y k21)), (12, .int (nI k21)), (14, .int (nI ((zAhead y k21 k46) + 0))), (15, .int (nI (k46 + 1)))]) [2, 3, 4, 5, 6, 7, 8, 9, 10, 11, 12, 13, 14, 15, 1, 0] rfl ?_
                refine G.lv0 (lv2 := [(13, .int (zBal y k21)), (0, .ref x), (1, .ref (x + 194)), (2, .ref (x + 195)), (3, .ref (x + 196)), (4, .ref (x + 197)), (5, .ref (x + 198)), (6, .int (nI (zTh y k21))), (7, .int (rEs y k21)), (8, .int (rCs y k21)), (9, .int (zPaid y k21)), (10, .int (zDebt y k21)), (11, .int (zDSet y k21)), (12, .int (nI k21)), (14, .int (nI (zAhead y k21 (k46 + 1)))), (15, .int (nI (k46 + 1)))]) (congrArg (fun q9 => ([(13, .int (zBal y k21)), (0, .ref x), (1, .ref (x + 194)), (2, .ref (x + 195)), (3, .ref (x + 196)), (4, .ref (x + 197)), (5, .ref (x + 198)), (6, .int (nI (zTh y k21))), (7, .int (rEs y k21)), (8, .int (rCs y k21)), (9, .int (zPaid y k21)), (10, .int (zDebt y k21)), (11, .int (zDSet y k21)), (12, .int (nI k21)), (14, .int q9), (15, .int (nI (k46 + 1)))] : List (Nat × Value))) (show (nI ((zAhead y k21 k46) + 0) : Int32) = nI (zAhead y k21 (k46 + 1)) from by first | exact as_a0a hI (by omega) nq65 | exact as_a1 hI (by omega) nq65 (Or.inl cq79) | exact as_a1 hI (by omega) nq65 (Or.inr ⟨cq93, by omega⟩) | exact as_a0b cq79 cq93 | exact as_a0c cq79 (by omega))) ?_
                exact ih46 (k46 + 1) (by omega) (by omega)
              · skip
                have nq65 := Int32.not_le.mp cq65
                refine G.aload_n (pc := 68) cx dL_areSailors_68 rfl 3 rfl ?_
                refine G.aload_n (pc := 69) cx dL_areSailors_69 rfl 4 rfl ?_
                refine G.aload (pc := 70) cx dL_areSailors_70 5 rfl ?_
                refine G.iload (pc := 72) cx dL_areSailors_72 15 rfl ?_
                refine G.callSg (pc := 74) (rest := [.int (nI (zAhead y k21 k46))]) (st1 := [.int (zBal y k46), .int (nI (zAhead y k21 k46))]) cx (c_L_balance l K sz x y s y V k46 (by omega)) ok_L_balance dL_areSailors_74 wm_ml_L_23 rfl rfl (Nat.le_of_ble_eq_true rfl) ⟨Nat.le_of_ble_eq_true rfl, Nat.le_of_ble_eq_true rfl⟩ ⟨Nat.le_of_ble_eq_true rfl, Nat.le_of_ble_eq_true rfl⟩ rfl ?_
                refine G.iload (pc := 77) cx dL_areSailors_77 0 rfl ?_
                refine G.icmp_lt (pc := 79) cx dL_areSailors_79 (tgt := 103) (by decide) (fun cq79 => ?_) (fun cq79 => ?_)
                · skip
                  refine G.iconst (pc := 103) cx dL_areSailors_103 (v := 1) (by decide) ?_
                  refine G.goto (pc := 104) cx dL_areSailors_104 (tgt := 108) (by decide) ?_
                  refine G.iaddN (pc := 108) cx dL_areSailors_108 (zAhead y k21 k46) 1 ?_
                  refine G.istore (pc := 109) cx dL_areSailors_109 (by decide) rfl ?_
                  refine G.iinc (pc := 111) cx dL_areSailors_111 (v := nI (k46 + 1)) (k := 15) rfl (nI_add k46 1) (by decide) rfl ?_
                  refine G.goto (pc := 114) cx dL_areSailors_114 (tgt := 46) (by decide) ?_
                  refine G.castL (lv' := [(13, .int (zBal y k21)), (0, .ref x), (1, .ref (x + 194)), (2, .ref (x + 195)), (3, .ref (x + 196)), (4, .ref (x + 197)), (5, .ref (x + 198)), (6, .int (nI (zTh y k21))), (7, .int (rEs y k21)), (8, .int (rCs y k21)), (9, .int (zPaid y k21)), (10, .int (zDebt y k21)), (11, .int (zDSet y k21)), (12, .int (nI k21)), (14, .int (nI ((zAhead y k21 k46) + 1))), (15, .int (nI (k46 + 1)))]) [2, 3, 4, 5, 6, 7, 8, 9, 10, 11, 12, 13, 14, 15, 1, 0] rfl ?_
                  refine G.lv0 (lv2 := [(13, .int (zBal y k21)), (0, .ref x), (1, .ref (x + 194)), (2, .ref (x + 195)), (3, .ref (x + 196)), (4, .ref (x + 197)), (5, .ref (x + 198)), (6, .int (nI (zTh y k21))), (7, .int (rEs y k21)), (8, .int (rCs y k21)), (9, .int (zPaid y k21)), (10, .int (zDebt y k21)), (11, .int (zDSet y k21)), (12, .int (nI k21)), (14, .int (nI (zAhead y k21 (k46 + 1)))), (15, .int (nI (k46 + 1)))]) (congrArg (fun q9 => ([(13, .int (zBal y k21)), (0, .ref x), (1, .ref (x + 194)), (2, .ref (x + 195)), (3, .ref (x + 196)), (4, .ref (x + 197)), (5, .ref (x + 198)), (6, .int (nI (zTh y k21))), (7, .int (rEs y k21)), (8, .int (rCs y k21)), (9, .int (zPaid y k21)), (10, .int (zDebt y k21)), (11, .int (zDSet y k21)), (12, .int (nI k21)), (14, .int q9), (15, .int (nI (k46 + 1)))] : List (Nat × Value))) (show (nI ((zAhead y k21 k46) + 1) : Int32) = nI (zAhead y k21 (k46 + 1)) from by first | exact as_a0a hI (by omega) nq65 | exact as_a1 hI (by omega) nq65 (Or.inl cq79) | exact as_a1 hI (by omega) nq65 (Or.inr ⟨cq93, by omega⟩) | exact as_a0b cq79 cq93 | exact as_a0c cq79 (by omega))) ?_
                  exact ih46 (k46 + 1) (by omega) (by omega)
                · skip
                  refine G.aload_n (pc := 82) cx dL_areSailors_82 rfl 3 rfl ?_
                  refine G.aload_n (pc := 83) cx dL_areSailors_83 rfl 4 rfl ?_
                  refine G.aload (pc := 84) cx dL_areSailors_84 5 rfl ?_
                  refine G.iload (pc := 86) cx dL_areSailors_86 15 rfl ?_
                  refine G.callSg (pc := 88) (rest := [.int (nI (zAhead y k21 k46))]) (st1 := [.int (zBal y k46), .int (nI (zAhead y k21 k46))]) cx (c_L_balance l K sz x y s y V k46 (by omega)) ok_L_balance dL_areSailors_88 wm_ml_L_23 rfl rfl (Nat.le_of_ble_eq_true rfl) ⟨Nat.le_of_ble_eq_true rfl, Nat.le_of_ble_eq_true rfl⟩ ⟨Nat.le_of_ble_eq_true rfl, Nat.le_of_ble_eq_true rfl⟩ rfl ?_
                  refine G.iload (pc := 91) cx dL_areSailors_91 0 rfl ?_
                  refine G.icmp_ne (pc := 93) cx dL_areSailors_93 (tgt := 107) (by decide) (fun cq93 => ?_) (fun cq93 => ?_)
                  · skip
                    refine G.iconst (pc := 107) cx dL_areSailors_107 (v := 0) (by decide) ?_
                    refine G.iaddN (pc := 108) cx dL_areSailors_108 (zAhead y k21 k46) 0 ?_
                    refine G.istore (pc := 109) cx dL_areSailors_109 (by decide) rfl ?_
                    refine G.iinc (pc := 111) cx dL_areSailors_111 (v := nI (k46 + 1)) (k := 15) rfl (nI_add k46 1) (by decide) rfl ?_
                    refine G.goto (pc := 114) cx dL_areSailors_114 (tgt := 46) (by decide) ?_
                    refine G.castL (lv' := [(13, .int (zBal y k21)), (0, .ref x), (1, .ref (x + 194)), (2, .ref (x + 195)), (3, .ref (x + 196)), (4, .ref (x + 197)), (5, .ref (x + 198)), (6, .int (nI (zTh y k21))), (7, .int (rEs y k21)), (8, .int (rCs y k21)), (9, .int (zPaid y k21)), (10, .int (zDebt y k21)), (11, .int (zDSet y k21)), (12, .int (nI k21)), (14, .int (nI ((zAhead y k21 k46) + 0))), (15, .int (nI (k46 + 1)))]) [2, 3, 4, 5, 6, 7, 8, 9, 10, 11, 12, 13, 14, 15, 1, 0] rfl ?_
                    refine G.lv0 (lv2 := [(13, .int (zBal y k21)), (0, .ref x), (1, .ref (x + 194)), (2, .ref (x + 195)), (3, .ref (x + 196)), (4, .ref (x + 197)), (5, .ref (x + 198)), (6, .int (nI (zTh y k21))), (7, .int (rEs y k21)), (8, .int (rCs y k21)), (9, .int (zPaid y k21)), (10, .int (zDebt y k21)), (11, .int (zDSet y k21)), (12, .int (nI k21)), (14, .int (nI (zAhead y k21 (k46 + 1)))), (15, .int (nI (k46 + 1)))]) (congrArg (fun q9 => ([(13, .int (zBal y k21)), (0, .ref x), (1, .ref (x + 194)), (2, .ref (x + 195)), (3, .ref (x + 196)), (4, .ref (x + 197)), (5, .ref (x + 198)), (6, .int (nI (zTh y k21))), (7, .int (rEs y k21)), (8, .int (rCs y k21)), (9, .int (zPaid y k21)), (10, .int (zDebt y k21)), (11, .int (zDSet y k21)), (12, .int (nI k21)), (14, .int q9), (15, .int (nI (k46 + 1)))] : List (Nat × Value))) (show (nI ((zAhead y k21 k46) + 0) : Int32) = nI (zAhead y k21 (k46 + 1)) from by first | exact as_a0a hI (by omega) nq65 | exact as_a1 hI (by omega) nq65 (Or.inl cq79) | exact as_a1 hI (by omega) nq65 (Or.inr ⟨cq93, by omega⟩) | exact as_a0b cq79 cq93 | exact as_a0c cq79 (by omega))) ?_
                    exact ih46 (k46 + 1) (by omega) (by omega)
                  · skip
                    refine G.iload (pc := 96) cx dL_areSailors_96 15 rfl ?_
                    refine G.iload (pc := 98) cx dL_areSailors_98 13 rfl ?_
                    refine G.icmp_geN (pc := 100) cx k46 k21 (by omega) (by omega) dL_areSailors_100 (tgt := 107) (by decide) (fun cq100 => ?_) (fun cq100 => ?_)
                    · skip
                      have nq100 := Nat.not_lt.mpr cq100
                      refine G.iconst (pc := 107) cx dL_areSailors_107 (v := 0) (by decide) ?_
                      refine G.iaddN (pc := 108) cx dL_areSailors_108 (zAhead y k21 k46) 0 ?_
                      refine G.istore (pc := 109) cx dL_areSailors_109 (by decide) rfl ?_
                      refine G.iinc (pc := 111) cx dL_areSailors_111 (v := nI (k46 + 1)) (k := 15) rfl (nI_add k46 1) (by decide) rfl ?_
                      refine G.goto (pc := 114) cx dL_areSailors_114 (tgt := 46) (by decide) ?_
                      refine G.castL (lv' := [(13, .int (zBal y k21)), (0, .ref x), (1, .ref (x + 194)), (2, .ref (x + 195)), (3, .ref (x + 196)), (4, .ref (x + 197)), (5, .ref (x + 198)), (6, .int (nI (zTh y k21))), (7, .int (rEs y k21)), (8, .int (rCs y k21)), (9, .int (zPaid y k21)), (10, .int (zDebt y k21)), (11, .int (zDSet y k21)), (12, .int (nI k21)), (14, .int (nI ((zAhead y k21 k46) + 0))), (15, .int (nI (k46 + 1)))]) [2, 3, 4, 5, 6, 7, 8, 9, 10, 11, 12, 13, 14, 15, 1, 0] rfl ?_
                      refine G.lv0 (lv2 := [(13, .int (zBal y k21)), (0, .ref x), (1, .ref (x + 194)), (2, .ref (x + 195)), (3, .ref (x + 196)), (4, .ref (x + 197)), (5, .ref (x + 198)), (6, .int (nI (zTh y k21))), (7, .int (rEs y k21)), (8, .int (rCs y k21)), (9, .int (zPaid y k21)), (10, .int (zDebt y k21)), (11, .int (zDSet y k21)), (12, .int (nI k21)), (14, .int (nI (zAhead y k21 (k46 + 1)))), (15, .int (nI (k46 + 1)))]) (congrArg (fun q9 => ([(13, .int (zBal y k21)), (0, .ref x), (1, .ref (x + 194)), (2, .ref (x + 195)), (3, .ref (x + 196)), (4, .ref (x + 197)), (5, .ref (x + 198)), (6, .int (nI (zTh y k21))), (7, .int (rEs y k21)), (8, .int (rCs y k21)), (9, .int (zPaid y k21)), (10, .int (zDebt y k21)), (11, .int (zDSet y k21)), (12, .int (nI k21)), (14, .int q9), (15, .int (nI (k46 + 1)))] : List (Nat × Value))) (show (nI ((zAhead y k21 k46) + 0) : Int32) = nI (zAhead y k21 (k46 + 1)) from by first | exact as_a0a hI (by omega) nq65 | exact as_a1 hI (by omega) nq65 (Or.inl cq79) | exact as_a1 hI (by omega) nq65 (Or.inr ⟨cq93, by omega⟩) | exact as_a0b cq79 cq93 | exact as_a0c cq79 (by omega))) ?_
                      exact ih46 (k46 + 1) (by omega) (by omega)
                    · skip
                      have nq100 := Nat.not_le.mpr cq100
                      refine G.iconst (pc := 103) cx dL_areSailors_103 (v := 1) (by decide) ?_
                      refine G.goto (pc := 104) cx dL_areSailors_104 (tgt := 108) (by decide) ?_
                      refine G.iaddN (pc := 108) cx dL_areSailors_108 (zAhead y k21 k46) 1 ?_
                      refine G.istore (pc := 109) cx dL_areSailors_109 (by decide) rfl ?_
                      refine G.iinc (pc := 111) cx dL_areSailors_111 (v := nI (k46 + 1)) (k := 15) rfl (nI_add k46 1) (by decide) rfl ?_
                      refine G.goto (pc := 114) cx dL_areSailors_114 (tgt := 46) (by decide) ?_
                      refine G.castL (lv' := [(13, .int (zBal y k21)), (0, .ref x), (1, .ref (x + 194)), (2, .ref (x + 195)), (3, .ref (x + 196)), (4, .ref (x + 197)), (5, .ref (x + 198)), (6, .int (nI (zTh y k21))), (7, .int (rEs y k21)), (8, .int (rCs y k21)), (9, .int (zPaid y k21)), (10, .int (zDebt y k21)), (11, .int (zDSet y k21)), (12, .int (nI k21)), (14, .int (nI ((zAhead y k21 k46) + 1))), (15, .int (nI (k46 + 1)))]) [2, 3, 4, 5, 6, 7, 8, 9, 10, 11, 12, 13, 14, 15, 1, 0] rfl ?_
                      refine G.lv0 (lv2 := [(13, .int (zBal y k21)), (0, .ref x), (1, .ref (x + 194)), (2, .ref (x + 195)), (3, .ref (x + 196)), (4, .ref (x + 197)), (5, .ref (x + 198)), (6, .int (nI (zTh y k21))), (7, .int (rEs y k21)), (8, .int (rCs y k21)), (9, .int (zPaid y k21)), (10, .int (zDebt y k21)), (11, .int (zDSet y k21)), (12, .int (nI k21)), (14, .int (nI (zAhead y k21 (k46 + 1)))), (15, .int (nI (k46 + 1)))]) (congrArg (fun q9 => ([(13, .int (zBal y k21)), (0, .ref x), (1, .ref (x + 194)), (2, .ref (x + 195)), (3, .ref (x + 196)), (4, .ref (x + 197)), (5, .ref (x + 198)), (6, .int (nI (zTh y k21))), (7, .int (rEs y k21)), (8, .int (rCs y k21)), (9, .int (zPaid y k21)), (10, .int (zDebt y k21)), (11, .int (zDSet y k21)), (12, .int (nI k21)), (14, .int q9), (15, .int (nI (k46 + 1)))] : List (Nat × Value))) (show (nI ((zAhead y k21 k46) + 1) : Int32) = nI (zAhead y k21 (k46 + 1)) from by first | exact as_a0a hI (by omega) nq65 | exact as_a1 hI (by omega) nq65 (Or.inl cq79) | exact as_a1 hI (by omega) nq65 (Or.inr ⟨cq93, by omega⟩) | exact as_a0b cq79 cq93 | exact as_a0c cq79 (by omega))) ?_
                      exact ih46 (k46 + 1) (by omega) (by omega)
        refine G.castL (lv' := [(13, .int (zBal y k21)), (0, .ref x), (1, .ref (x + 194)), (2, .ref (x + 195)), (3, .ref (x + 196)), (4, .ref (x + 197)), (5, .ref (x + 198)), (6, .int (nI (zTh y k21))), (7, .int (rEs y k21)), (8, .int (rCs y k21)), (9, .int (zPaid y k21)), (10, .int (zDebt y k21)), (11, .int (zDSet y k21)), (12, .int (nI k21)), (14, .int 0), (15, .int 0)]) [2, 3, 4, 5, 6, 7, 8, 9, 10, 11, 12, 13, 14, 15, 1, 0] rfl ?_
        refine G.lv0 (lv2 := [(13, .int (zBal y k21)), (0, .ref x), (1, .ref (x + 194)), (2, .ref (x + 195)), (3, .ref (x + 196)), (4, .ref (x + 197)), (5, .ref (x + 198)), (6, .int (nI (zTh y k21))), (7, .int (rEs y k21)), (8, .int (rCs y k21)), (9, .int (zPaid y k21)), (10, .int (zDebt y k21)), (11, .int (zDSet y k21)), (12, .int (nI k21)), (14, .int (nI (zAhead y k21 0))), (15, .int 0)]) (congrArg (fun q9 => ([(13, .int (zBal y k21)), (0, .ref x), (1, .ref (x + 194)), (2, .ref (x + 195)), (3, .ref (x + 196)), (4, .ref (x + 197)), (5, .ref (x + 198)), (6, .int (nI (zTh y k21))), (7, .int (rEs y k21)), (8, .int (rCs y k21)), (9, .int (zPaid y k21)), (10, .int (zDebt y k21)), (11, .int (zDSet y k21)), (12, .int (nI k21)), (14, .int q9), (15, .int 0)] : List (Nat × Value))) (show (0 : Int32) = nI (zAhead y k21 0) from by rfl)) ?_
        refine G.lv0 (lv2 := [(13, .int (zBal y k21)), (0, .ref x), (1, .ref (x + 194)), (2, .ref (x + 195)), (3, .ref (x + 196)), (4, .ref (x + 197)), (5, .ref (x + 198)), (6, .int (nI (zTh y k21))), (7, .int (rEs y k21)), (8, .int (rCs y k21)), (9, .int (zPaid y k21)), (10, .int (zDebt y k21)), (11, .int (zDSet y k21)), (12, .int (nI k21)), (14, .int (nI (zAhead y k21 0))), (15, .int (nI 0))]) (congrArg (fun q9 => ([(13, .int (zBal y k21)), (0, .ref x), (1, .ref (x + 194)), (2, .ref (x + 195)), (3, .ref (x + 196)), (4, .ref (x + 197)), (5, .ref (x + 198)), (6, .int (nI (zTh y k21))), (7, .int (rEs y k21)), (8, .int (rCs y k21)), (9, .int (zPaid y k21)), (10, .int (zDebt y k21)), (11, .int (zDSet y k21)), (12, .int (nI k21)), (14, .int (nI (zAhead y k21 0))), (15, .int q9)] : List (Nat × Value))) (show (0 : Int32) = nI 0 from by rfl)) ?_
        exact L46_2 (N + 1) 0 (by omega) (by omega)
  refine G.castL (lv' := [(0, .ref x), (1, .ref (x + 194)), (2, .ref (x + 195)), (3, .ref (x + 196)), (4, .ref (x + 197)), (5, .ref (x + 198)), (6, .int 0), (7, .int 0), (8, .int 0), (9, .int 0), (10, .int 0), (11, .int 0), (12, .int 0)]) [7, 8, 9, 10, 11, 12, 6, 5, 4, 3, 2, 1, 0] rfl ?_
  refine G.lv0 (lv2 := [(0, .ref x), (1, .ref (x + 194)), (2, .ref (x + 195)), (3, .ref (x + 196)), (4, .ref (x + 197)), (5, .ref (x + 198)), (6, .int (nI (zTh y 0))), (7, .int 0), (8, .int 0), (9, .int 0), (10, .int 0), (11, .int 0), (12, .int 0)]) (congrArg (fun q9 => ([(0, .ref x), (1, .ref (x + 194)), (2, .ref (x + 195)), (3, .ref (x + 196)), (4, .ref (x + 197)), (5, .ref (x + 198)), (6, .int q9), (7, .int 0), (8, .int 0), (9, .int 0), (10, .int 0), (11, .int 0), (12, .int 0)] : List (Nat × Value))) (show (0 : Int32) = nI (zTh y 0) from by rfl)) ?_
  refine G.lv0 (lv2 := [(0, .ref x), (1, .ref (x + 194)), (2, .ref (x + 195)), (3, .ref (x + 196)), (4, .ref (x + 197)), (5, .ref (x + 198)), (6, .int (nI (zTh y 0))), (7, .int (rEs y 0)), (8, .int 0), (9, .int 0), (10, .int 0), (11, .int 0), (12, .int 0)]) (congrArg (fun q9 => ([(0, .ref x), (1, .ref (x + 194)), (2, .ref (x + 195)), (3, .ref (x + 196)), (4, .ref (x + 197)), (5, .ref (x + 198)), (6, .int (nI (zTh y 0))), (7, .int q9), (8, .int 0), (9, .int 0), (10, .int 0), (11, .int 0), (12, .int 0)] : List (Nat × Value))) (show (0 : Int32) = rEs y 0 from by rfl)) ?_
  refine G.lv0 (lv2 := [(0, .ref x), (1, .ref (x + 194)), (2, .ref (x + 195)), (3, .ref (x + 196)), (4, .ref (x + 197)), (5, .ref (x + 198)), (6, .int (nI (zTh y 0))), (7, .int (rEs y 0)), (8, .int (rCs y 0)), (9, .int 0), (10, .int 0), (11, .int 0), (12, .int 0)]) (congrArg (fun q9 => ([(0, .ref x), (1, .ref (x + 194)), (2, .ref (x + 195)), (3, .ref (x + 196)), (4, .ref (x + 197)), (5, .ref (x + 198)), (6, .int (nI (zTh y 0))), (7, .int (rEs y 0)), (8, .int q9), (9, .int 0), (10, .int 0), (11, .int 0), (12, .int 0)] : List (Nat × Value))) (show (0 : Int32) = rCs y 0 from by rfl)) ?_
  refine G.lv0 (lv2 := [(0, .ref x), (1, .ref (x + 194)), (2, .ref (x + 195)), (3, .ref (x + 196)), (4, .ref (x + 197)), (5, .ref (x + 198)), (6, .int (nI (zTh y 0))), (7, .int (rEs y 0)), (8, .int (rCs y 0)), (9, .int (zPaid y 0)), (10, .int 0), (11, .int 0), (12, .int 0)]) (congrArg (fun q9 => ([(0, .ref x), (1, .ref (x + 194)), (2, .ref (x + 195)), (3, .ref (x + 196)), (4, .ref (x + 197)), (5, .ref (x + 198)), (6, .int (nI (zTh y 0))), (7, .int (rEs y 0)), (8, .int (rCs y 0)), (9, .int q9), (10, .int 0), (11, .int 0), (12, .int 0)] : List (Nat × Value))) (show (0 : Int32) = zPaid y 0 from by rfl)) ?_
  refine G.lv0 (lv2 := [(0, .ref x), (1, .ref (x + 194)), (2, .ref (x + 195)), (3, .ref (x + 196)), (4, .ref (x + 197)), (5, .ref (x + 198)), (6, .int (nI (zTh y 0))), (7, .int (rEs y 0)), (8, .int (rCs y 0)), (9, .int (zPaid y 0)), (10, .int (zDebt y 0)), (11, .int 0), (12, .int 0)]) (congrArg (fun q9 => ([(0, .ref x), (1, .ref (x + 194)), (2, .ref (x + 195)), (3, .ref (x + 196)), (4, .ref (x + 197)), (5, .ref (x + 198)), (6, .int (nI (zTh y 0))), (7, .int (rEs y 0)), (8, .int (rCs y 0)), (9, .int (zPaid y 0)), (10, .int q9), (11, .int 0), (12, .int 0)] : List (Nat × Value))) (show (0 : Int32) = zDebt y 0 from by rfl)) ?_
  refine G.lv0 (lv2 := [(0, .ref x), (1, .ref (x + 194)), (2, .ref (x + 195)), (3, .ref (x + 196)), (4, .ref (x + 197)), (5, .ref (x + 198)), (6, .int (nI (zTh y 0))), (7, .int (rEs y 0)), (8, .int (rCs y 0)), (9, .int (zPaid y 0)), (10, .int (zDebt y 0)), (11, .int (zDSet y 0)), (12, .int 0)]) (congrArg (fun q9 => ([(0, .ref x), (1, .ref (x + 194)), (2, .ref (x + 195)), (3, .ref (x + 196)), (4, .ref (x + 197)), (5, .ref (x + 198)), (6, .int (nI (zTh y 0))), (7, .int (rEs y 0)), (8, .int (rCs y 0)), (9, .int (zPaid y 0)), (10, .int (zDebt y 0)), (11, .int q9), (12, .int 0)] : List (Nat × Value))) (show (0 : Int32) = zDSet y 0 from by rfl)) ?_
  refine G.lv0 (lv2 := [(0, .ref x), (1, .ref (x + 194)), (2, .ref (x + 195)), (3, .ref (x + 196)), (4, .ref (x + 197)), (5, .ref (x + 198)), (6, .int (nI (zTh y 0))), (7, .int (rEs y 0)), (8, .int (rCs y 0)), (9, .int (zPaid y 0)), (10, .int (zDebt y 0)), (11, .int (zDSet y 0)), (12, .int (nI 0))]) (congrArg (fun q9 => ([(0, .ref x), (1, .ref (x + 194)), (2, .ref (x + 195)), (3, .ref (x + 196)), (4, .ref (x + 197)), (5, .ref (x + 198)), (6, .int (nI (zTh y 0))), (7, .int (rEs y 0)), (8, .int (rCs y 0)), (9, .int (zPaid y 0)), (10, .int (zDebt y 0)), (11, .int (zDSet y 0)), (12, .int q9)] : List (Nat × Value))) (show (0 : Int32) = nI 0 from by rfl)) ?_
  exact L21_1 (N + 1) 0 (by omega) (by omega)
