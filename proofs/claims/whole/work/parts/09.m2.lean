theorem zCan_0 {z : Zt} {N k : Nat} {w x : Int32} (h : ¬ zCan z N w x k = true) : (0 : Int32) = b2 (zCan z N w x (k + 1) = true) := (b2_f (by simp [zCan, h])).symm
theorem zCan_1 {z : Zt} {N k : Nat} {w x : Int32} (h : zCan z N w x k = true) (h2 : ¬ (z (10 * k + 1) = w ∧ ¬ z (10 * k + 2) = 2)) : (1 : Int32) = b2 (zCan z N w x (k + 1) = true) := (b2_t (by simp only [zCan, h, decide_eq_false h2]; rfl)).symm
theorem zCan_2 {z : Zt} {N k : Nat} {w x : Int32} (h : zCan z N w x k = true) (h2 : ¬ zBal z k - zPart z N k w x < -4000) : (1 : Int32) = b2 (zCan z N w x (k + 1) = true) := (b2_t (by simp only [zCan, h, decide_eq_false h2]; simp)).symm
theorem zCan_3 {z : Zt} {N k : Nat} {w x : Int32} (h : zCan z N w x k = true) (h1 : z (10 * k + 1) = w ∧ ¬ z (10 * k + 2) = 2) (h2 : zBal z k - zPart z N k w x < -4000) : (0 : Int32) = b2 (zCan z N w x (k + 1) = true) := (b2_f (by simp only [zCan, h, decide_eq_true h1, decide_eq_true h2]; simp)).symm
theorem zNoSign_ok {z : Zt} {N : Nat} {q w : Int32} (hN : z 194 = nI N) (h16 : N ≤ 16) (h : 0 ≤ zNoSign z q w) : N < 16 := by
  rcases Nat.lt_or_ge N 16 with h1 | h1
  · exact h1
  · exfalso
    have e : N = 16 := by omega
    subst e
    unfold zNoSign at h
    rw [hN] at h
    have e2 : nI 16 = 16 := rfl
    rw [e2] at h
    by_cases cq1 : ¬ (0 ≤ q ∧ q ≤ 3) ∨ ¬ (0 ≤ w ∧ w ≤ 1)
    · rw [if_pos cq1] at h; exact absurd h (by decide)
    · rw [if_neg cq1] at h
      by_cases cq2 : z 191 = 1
      · rw [if_pos cq2] at h; exact absurd h (by decide)
      · rw [if_neg cq2, if_pos rfl] at h; exact absurd h (by decide)
theorem ok_or {P : Prop} [Decidable P] {e x : Int32} (h : 0 ≤ (if P then e else x)) (he : ¬ 0 ≤ e) : ¬ P := fun hp => he (by rw [if_pos hp] at h; exact h)
theorem zNoStock_ok {z : Zt} {i m c : Int32} (h : 0 ≤ zNoStock z i m c) : 0 ≤ i ∧ i ≤ 5 := by
  have := ok_or h (by decide); exact Decidable.byContradiction fun g => this (Or.inl g)
theorem zNoSell_ok {z : Zt} {a i m : Int32} (h : 0 ≤ zNoSell z a i m) : (0 ≤ a ∧ a ≤ z 194 - 1) ∧ (0 ≤ i ∧ i ≤ 5) := by
  have := ok_or h (by decide)
  exact ⟨Decidable.byContradiction fun g => this (Or.inl g), Decidable.byContradiction fun g => this (Or.inr (Or.inl g))⟩
theorem zNoAdv_ok {z : Zt} {a x : Int32} (h : 0 ≤ zNoAdv z a x) : 0 ≤ a ∧ a ≤ z 194 - 1 := by
  have := ok_or h (by decide); exact Decidable.byContradiction fun g => this (Or.inl g)
theorem zNoFine_ok {z : Zt} {a x : Int32} (h : 0 ≤ zNoFine z a x) : 0 ≤ a ∧ a ≤ z 194 - 1 := by
  have := ok_or h (by decide); exact Decidable.byContradiction fun g => this (Or.inl g)
theorem zNoBack_ok {z : Zt} {a x : Int32} (h : 0 ≤ zNoBack z a x) : 0 ≤ a ∧ a ≤ z 194 - 1 := by
  have := ok_or h (by decide); exact Decidable.byContradiction fun g => this (Or.inl g)
theorem zNoDis_ok {z : Zt} {a : Int32} (h : 0 ≤ zNoDis z a) : 0 ≤ a ∧ a ≤ z 194 - 1 := by
  have := ok_or h (by decide); exact Decidable.byContradiction fun g => this g
set_option maxHeartbeats 4000000 in
set_option maxRecDepth 100000 in
theorem c_X10_noSign (l : Launch) (K : KT) (sz : Nat) (o : Nat) (z : Zt) (r : Rt) (V : VW) (q : Int32) (w : Int32)  : Ct l K yX10_noSign cX10_noSign 3 (some .int) 1 [.ref o, .int q, .int w] (mw K o z r V) sz (some (.int (zNoSign z q w))) (mw K o z r V) sz 0 0 := by
  refine Ct.ofG (by decide) (Nat.le_of_ble_eq_true rfl) ?_
  intro p9 e9 s9 m9 a9 b9 t9 c9 cx hin9
  refine G.lv0 (lv2 := [(0, .ref o), (1, .int q), (2, .int w)]) rfl ?_
  refine G.iload_n (pc := 0) cx dX10_noSign_0 rfl 1 rfl ?_
  refine G.iconst (pc := 1) cx dX10_noSign_1 (v := 0) (by decide) ?_
  refine G.iconst (pc := 2) cx dX10_noSign_2 (v := 3) (by decide) ?_
  refine G.callS0 (pc := 3) (rest := []) (st1 := [.int (b2 (0 ≤ q ∧ q ≤ 3))]) cx (c_X10_in l K sz q 0 3 (mw K o z r V)) ok_X10_in dX10_noSign_3 wm_ml_X10_25 rfl rfl (Nat.le_of_ble_eq_true rfl) ⟨Nat.le_of_ble_eq_true rfl, Nat.le_of_ble_eq_true rfl⟩ rfl ?_
  refine G.if_eqB (pc := 6) cx dX10_noSign_6 (tgt := 18) (by decide) (fun cq6 => ?_) (fun cq6 => ?_)
  · skip
    refine G.ldc (pc := 18) cx dX10_noSign_18 (v := (-1000001)) wm_ct_X10_64 ?_
    refine G.iret (pc := 20) cx rfl dX10_noSign_20 ?_ ?_ rfl
    · refine congrArg (fun x => some (Value.int x)) ?_
      (try clear hin9); (try clear cx); first | rfl | (refine b2_t ?_; grind) | (refine b2_f ?_; grind) | (simp [*, zNoSign]; done) | (simp_all [zNoSign]; done) | grind [zNoSign]
    · rfl
  · skip
    refine G.iload_n (pc := 9) cx dX10_noSign_9 rfl 2 rfl ?_
    refine G.iconst (pc := 10) cx dX10_noSign_10 (v := 0) (by decide) ?_
    refine G.iconst (pc := 11) cx dX10_noSign_11 (v := 1) (by decide) ?_
    refine G.callS0 (pc := 12) (rest := []) (st1 := [.int (b2 (0 ≤ w ∧ w ≤ 1))]) cx (c_X10_in l K sz w 0 1 (mw K o z r V)) ok_X10_in dX10_noSign_12 wm_ml_X10_25 rfl rfl (Nat.le_of_ble_eq_true rfl) ⟨Nat.le_of_ble_eq_true rfl, Nat.le_of_ble_eq_true rfl⟩ rfl ?_
    refine G.if_neB (pc := 15) cx dX10_noSign_15 (tgt := 21) (by decide) (fun cq15 => ?_) (fun cq15 => ?_)
    · skip
      refine G.aload_n (pc := 21) cx dX10_noSign_21 rfl 0 rfl ?_
      refine G.callV0 (pc := 22) (rest := []) (st1 := [.int (b2 (z 191 = 1))]) cx (c_X10_isAtSea l K sz o z r V) ok_X10_isAtSea dX10_noSign_22 wm_ml_X10_65 rfl mw_m rfl rfl (Nat.le_of_ble_eq_true rfl) ⟨Nat.le_of_ble_eq_true rfl, Nat.le_of_ble_eq_true rfl⟩ rfl ?_
      refine G.if_eqB (pc := 25) cx dX10_noSign_25 (tgt := 33) (by decide) (fun cq25 => ?_) (fun cq25 => ?_)
      · skip
        refine G.aload_n (pc := 33) cx dX10_noSign_33 rfl 0 rfl ?_
        refine G.getM (pc := 34) cx dX10_noSign_34 0 wm_fl_X10_7 (by decide) rfl ?_
        refine G.sipush (pc := 37) cx dX10_noSign_37 (v := 194) (by decide) ?_
        refine G.ialdV (pc := 40) cx dX10_noSign_40 mw_z (j := 194) rfl (by omega) (by decide) (cut_at (by omega)) ?_
        refine G.bipush (pc := 41) cx dX10_noSign_41 (v := 16) (by decide) ?_
        refine G.icmp_ne (pc := 43) cx dX10_noSign_43 (tgt := 51) (by decide) (fun cq43 => ?_) (fun cq43 => ?_)
        · skip
          refine G.iconst (pc := 51) cx dX10_noSign_51 (v := 0) (by decide) ?_
          refine G.iret (pc := 52) cx rfl dX10_noSign_52 ?_ ?_ rfl
          · refine congrArg (fun x => some (Value.int x)) ?_
            (try clear hin9); (try clear cx); first | rfl | (refine b2_t ?_; grind) | (refine b2_f ?_; grind) | (simp [*, zNoSign]; done) | (simp_all [zNoSign]; done) | grind [zNoSign]
          · rfl
        · skip
          refine G.ldc (pc := 46) cx dX10_noSign_46 (v := (-1000003)) wm_ct_X10_69 ?_
          refine G.goto (pc := 48) cx dX10_noSign_48 (tgt := 52) (by decide) ?_
          refine G.iret (pc := 52) cx rfl dX10_noSign_52 ?_ ?_ rfl
          · refine congrArg (fun x => some (Value.int x)) ?_
            (try clear hin9); (try clear cx); first | rfl | (refine b2_t ?_; grind) | (refine b2_f ?_; grind) | (simp [*, zNoSign]; done) | (simp_all [zNoSign]; done) | grind [zNoSign]
          · rfl
      · skip
        refine G.ldc (pc := 28) cx dX10_noSign_28 (v := (-1000002)) wm_ct_X10_37 ?_
        refine G.goto (pc := 30) cx dX10_noSign_30 (tgt := 52) (by decide) ?_
        refine G.iret (pc := 52) cx rfl dX10_noSign_52 ?_ ?_ rfl
        · refine congrArg (fun x => some (Value.int x)) ?_
          (try clear hin9); (try clear cx); first | rfl | (refine b2_t ?_; grind) | (refine b2_f ?_; grind) | (simp [*, zNoSign]; done) | (simp_all [zNoSign]; done) | grind [zNoSign]
        · rfl
    · skip
      refine G.ldc (pc := 18) cx dX10_noSign_18 (v := (-1000001)) wm_ct_X10_64 ?_
      refine G.iret (pc := 20) cx rfl dX10_noSign_20 ?_ ?_ rfl
      · refine congrArg (fun x => some (Value.int x)) ?_
        (try clear hin9); (try clear cx); first | rfl | (refine b2_t ?_; grind) | (refine b2_f ?_; grind) | (simp [*, zNoSign]; done) | (simp_all [zNoSign]; done) | grind [zNoSign]
      · rfl
set_option maxHeartbeats 4000000 in
set_option maxRecDepth 100000 in
theorem c_X10_doSign (l : Launch) (K : KT) (sz : Nat) (o : Nat) (z : Zt) (r : Rt) (V : VW) (q : Int32) (w : Int32) (N : Nat) (hN : z 194 = nI N) (h16 : N ≤ 16) (hl : N < 16) : Ct l K yX10_doSign cX10_doSign 4 (some .int) 2 [.ref o, .int q, .int w] (mw K o z r V) sz (some (.int (nI N))) (mw K o (zDoSign z N q w) r V) sz 0 0 := by
  refine Ct.ofG (by decide) (Nat.le_of_ble_eq_true rfl) ?_
  intro p9 e9 s9 m9 a9 b9 t9 c9 cx hin9
  refine G.lv0 (lv2 := [(0, .ref o), (1, .int q), (2, .int w)]) rfl ?_
  refine G.aload_n (pc := 0) cx dX10_doSign_0 rfl 0 rfl ?_
  refine G.getM (pc := 1) cx dX10_doSign_1 0 wm_fl_X10_7 (by decide) rfl ?_
  refine G.sipush (pc := 4) cx dX10_doSign_4 (v := 194) (by decide) ?_
  refine G.ialdV (pc := 7) cx dX10_doSign_7 mw_z (j := 194) rfl (by omega) (by decide) ((cut_at (by omega)).trans (hN)) ?_
  refine G.istore_n (pc := 8) cx dX10_doSign_8 rfl (by decide) rfl ?_
  refine G.aload_n (pc := 9) cx dX10_doSign_9 rfl 1 rfl ?_
  refine G.getM (pc := 10) cx dX10_doSign_10 0 wm_fl_X10_7 (by decide) rfl ?_
  refine G.sipush (pc := 13) cx dX10_doSign_13 (v := 194) (by decide) ?_
  refine G.dup2 (pc := 16) cx dX10_doSign_16 rfl rfl ?_
  refine G.ialdV (pc := 17) cx dX10_doSign_17 mw_z (j := 194) rfl (by omega) (by decide) ((cut_at (by omega)).trans (hN)) ?_
  refine G.iconst (pc := 18) cx dX10_doSign_18 (v := 1) (by decide) ?_
  refine G.iaddN (pc := 19) cx dX10_doSign_19 N 1 ?_
  refine G.iastC (pc := 20) cx dX10_doSign_20 mw_z (j := 194) rfl (by omega) (by decide) mwZ ?_
  refine G.aload_n (pc := 21) cx dX10_doSign_21 rfl 1 rfl ?_
  refine G.iload_n (pc := 22) cx dX10_doSign_22 rfl 0 rfl ?_
  refine G.callV0 (pc := 23) (rest := []) (st1 := []) cx (c_X10_clear l K sz o (upd z 194 (nI (N + 1))) r V N (by omega)) ok_X10_clear dX10_doSign_23 wm_ml_X10_70 rfl mw_m rfl rfl (Nat.le_of_ble_eq_true rfl) ⟨Nat.le_of_ble_eq_true rfl, Nat.le_of_ble_eq_true rfl⟩ rfl ?_
  refine G.aload_n (pc := 26) cx dX10_doSign_26 rfl 1 rfl ?_
  refine G.iload_n (pc := 27) cx dX10_doSign_27 rfl 0 rfl ?_
  refine G.iconst (pc := 28) cx dX10_doSign_28 (v := 0) (by decide) ?_
  refine G.iload_n (pc := 29) cx dX10_doSign_29 rfl 2 rfl ?_
  refine G.callV0 (pc := 30) (rest := []) (st1 := []) cx (c_X10_put l K sz o (zClear (upd z 194 (nI (N + 1))) N) r V N 0 q (by omega)) ok_X10_put dX10_doSign_30 wm_ml_X10_53 rfl mw_m rfl rfl (Nat.le_of_ble_eq_true rfl) ⟨Nat.le_of_ble_eq_true rfl, Nat.le_of_ble_eq_true rfl⟩ rfl ?_
  refine G.aload_n (pc := 33) cx dX10_doSign_33 rfl 1 rfl ?_
  refine G.iload_n (pc := 34) cx dX10_doSign_34 rfl 0 rfl ?_
  refine G.iconst (pc := 35) cx dX10_doSign_35 (v := 1) (by decide) ?_
  refine G.iload_n (pc := 36) cx dX10_doSign_36 rfl 3 rfl ?_
  refine G.callV0 (pc := 37) (rest := []) (st1 := []) cx (c_X10_put l K sz o (upd (zClear (upd z 194 (nI (N + 1))) N) (10 * N + 0) q) r V N 1 w (by omega)) ok_X10_put dX10_doSign_37 wm_ml_X10_53 rfl mw_m rfl rfl (Nat.le_of_ble_eq_true rfl) ⟨Nat.le_of_ble_eq_true rfl, Nat.le_of_ble_eq_true rfl⟩ rfl ?_
  refine G.aload_n (pc := 40) cx dX10_doSign_40 rfl 1 rfl ?_
  refine G.iload_n (pc := 41) cx dX10_doSign_41 rfl 0 rfl ?_
  refine G.iconst (pc := 42) cx dX10_doSign_42 (v := 2) (by decide) ?_
  refine G.iconst (pc := 43) cx dX10_doSign_43 (v := 0) (by decide) ?_
  refine G.callV0 (pc := 44) (rest := []) (st1 := []) cx (c_X10_put l K sz o (upd (upd (zClear (upd z 194 (nI (N + 1))) N) (10 * N + 0) q) (10 * N + 1) w) r V N 2 0 (by omega)) ok_X10_put dX10_doSign_44 wm_ml_X10_53 rfl mw_m rfl rfl (Nat.le_of_ble_eq_true rfl) ⟨Nat.le_of_ble_eq_true rfl, Nat.le_of_ble_eq_true rfl⟩ rfl ?_
  refine G.aload_n (pc := 47) cx dX10_doSign_47 rfl 1 rfl ?_
  refine G.iload_n (pc := 48) cx dX10_doSign_48 rfl 0 rfl ?_
  refine G.bipush (pc := 49) cx dX10_doSign_49 (v := 9) (by decide) ?_
  refine G.iconst (pc := 51) cx dX10_doSign_51 (v := 0) (by decide) ?_
  refine G.callV0 (pc := 52) (rest := []) (st1 := []) cx (c_X10_put l K sz o (upd (upd (upd (zClear (upd z 194 (nI (N + 1))) N) (10 * N + 0) q) (10 * N + 1) w) (10 * N + 2) 0) r V N 9 0 (by omega)) ok_X10_put dX10_doSign_52 wm_ml_X10_53 rfl mw_m rfl rfl (Nat.le_of_ble_eq_true rfl) ⟨Nat.le_of_ble_eq_true rfl, Nat.le_of_ble_eq_true rfl⟩ rfl ?_
  refine G.iload_n (pc := 55) cx dX10_doSign_55 rfl 0 rfl ?_
  refine G.iret (pc := 56) cx rfl dX10_doSign_56 ?_ ?_ rfl
  · rfl
  · refine congrArg (fun x => mw K o x r V) ?_
    (try clear hin9); (try clear cx); rfl
set_option maxHeartbeats 4000000 in
set_option maxRecDepth 100000 in
theorem c_X10_sign (l : Launch) (K : KT) (sz : Nat) (o : Nat) (z : Zt) (r : Rt) (V : VW) (q : Int32) (w : Int32) (N : Nat) (n : Nat) (hN : z 194 = nI N) (h16 : N ≤ 16) (hn : r.2.2.2.2 0 = nI n) (h4 : n ≤ 4) : Ct l K yX10_sign cX10_sign 4 (some .int) 3 [.ref o, .int q, .int w] (mw K o z r V) sz (some (.int (if zNoSign z q w < 0 then zNoSign z q w else nI N))) (mw K o (if zNoSign z q w < 0 then z else zDoSign z N q w) (if zNoSign z q w < 0 then r else rRec r n z) V) sz 0 0 := by
  refine Ct.ofG (by decide) (Nat.le_of_ble_eq_true rfl) ?_
  intro p9 e9 s9 m9 a9 b9 t9 c9 cx hin9
  refine G.lv0 (lv2 := [(0, .ref o), (1, .int q), (2, .int w)]) rfl ?_
  refine G.aload_n (pc := 0) cx dX10_sign_0 rfl 0 rfl ?_
  refine G.iload_n (pc := 1) cx dX10_sign_1 rfl 1 rfl ?_
  refine G.iload_n (pc := 2) cx dX10_sign_2 rfl 2 rfl ?_
  refine G.callV0 (pc := 3) (rest := []) (st1 := [.int (zNoSign z q w)]) cx (c_X10_noSign l K sz o z r V q w) ok_X10_noSign dX10_sign_3 wm_ml_X10_73 rfl mw_m rfl rfl (Nat.le_of_ble_eq_true rfl) ⟨Nat.le_of_ble_eq_true rfl, Nat.le_of_ble_eq_true rfl⟩ rfl ?_
  refine G.istore_n (pc := 6) cx dX10_sign_6 rfl (by decide) rfl ?_
  refine G.iload_n (pc := 7) cx dX10_sign_7 rfl 0 rfl ?_
  refine G.if_ge (pc := 8) cx dX10_sign_8 (tgt := 13) (by decide) (fun cq8 => ?_) (fun cq8 => ?_)
  · skip
    have hl : N < 16 := zNoSign_ok hN h16 cq8
    refine G.aload_n (pc := 13) cx dX10_sign_13 rfl 1 rfl ?_
    refine G.aload_n (pc := 14) cx dX10_sign_14 rfl 1 rfl ?_
    refine G.getM (pc := 15) cx dX10_sign_15 0 wm_fl_X10_7 (by decide) rfl ?_
    refine G.callV0 (pc := 18) (rest := []) (st1 := []) cx (c_X10_record l K sz o z r V n (by first | assumption | simp [*]) (by omega)) ok_X10_record dX10_sign_18 wm_ml_X10_76 rfl mw_m rfl rfl (Nat.le_of_ble_eq_true rfl) ⟨Nat.le_of_ble_eq_true rfl, Nat.le_of_ble_eq_true rfl⟩ rfl ?_
    refine G.aload_n (pc := 21) cx dX10_sign_21 rfl 1 rfl ?_
    refine G.iload_n (pc := 22) cx dX10_sign_22 rfl 2 rfl ?_
    refine G.iload_n (pc := 23) cx dX10_sign_23 rfl 3 rfl ?_
    refine G.callV0 (pc := 24) (rest := []) (st1 := [.int (nI N)]) cx (c_X10_doSign l K sz o z (rRec r n z) V q w N (by assumption) (by omega) (by omega)) ok_X10_doSign dX10_sign_24 wm_ml_X10_80 rfl mw_m rfl rfl (Nat.le_of_ble_eq_true rfl) ⟨Nat.le_of_ble_eq_true rfl, Nat.le_of_ble_eq_true rfl⟩ rfl ?_
    refine G.iret (pc := 27) cx rfl dX10_sign_27 ?_ ?_ rfl
    · refine congrArg (fun x => some (Value.int x)) ?_
      (try clear hin9); (try clear cx); first | (rw [if_pos (Int32.not_le.mp cq8)]; done) | (rw [if_neg (Int32.not_lt.mpr cq8)]; done) | (rw [if_neg (Int32.not_lt.mpr cq8)]; rfl)
    · show _ = _
      (try clear hin9); (try clear cx); first | (rw [if_pos (Int32.not_le.mp cq8), if_pos (Int32.not_le.mp cq8)]; done) | (rw [if_neg (Int32.not_lt.mpr cq8), if_neg (Int32.not_lt.mpr cq8)]; done) | (rw [if_neg (Int32.not_lt.mpr cq8), if_neg (Int32.not_lt.mpr cq8)]; rfl)
  · skip
    refine G.iload_n (pc := 11) cx dX10_sign_11 rfl 0 rfl ?_
    refine G.iret (pc := 12) cx rfl dX10_sign_12 ?_ ?_ rfl
    · refine congrArg (fun x => some (Value.int x)) ?_
      (try clear hin9); (try clear cx); first | (rw [if_pos (Int32.not_le.mp cq8)]; done) | (rw [if_neg (Int32.not_lt.mpr cq8)]; done) | (rw [if_neg (Int32.not_lt.mpr cq8)]; rfl)
    · show _ = _
      (try clear hin9); (try clear cx); first | (rw [if_pos (Int32.not_le.mp cq8), if_pos (Int32.not_le.mp cq8)]; done) | (rw [if_neg (Int32.not_lt.mpr cq8), if_neg (Int32.not_lt.mpr cq8)]; done) | (rw [if_neg (Int32.not_lt.mpr cq8), if_neg (Int32.not_lt.mpr cq8)]; rfl)
set_option maxHeartbeats 4000000 in
set_option maxRecDepth 100000 in
theorem c_X10_noStock (l : Launch) (K : KT) (sz : Nat) (o : Nat) (z : Zt) (r : Rt) (V : VW) (i : Int32) (m : Int32) (c : Int32)  : Ct l K yX10_noStock cX10_noStock 4 (some .int) 2 [.ref o, .int i, .int m, .int c] (mw K o z r V) sz (some (.int (zNoStock z i m c))) (mw K o z r V) sz 0 0 := by
  refine Ct.ofG (by decide) (Nat.le_of_ble_eq_true rfl) ?_
  intro p9 e9 s9 m9 a9 b9 t9 c9 cx hin9
  refine G.lv0 (lv2 := [(0, .ref o), (1, .int i), (2, .int m), (3, .int c)]) rfl ?_
  refine G.iload_n (pc := 0) cx dX10_noStock_0 rfl 1 rfl ?_
  refine G.callS0 (pc := 1) (rest := []) (st1 := [.int (b2 (0 ≤ i ∧ i ≤ 5))]) cx (c_X10_isItem l K sz i (mw K o z r V)) ok_X10_isItem dX10_noStock_1 wm_ml_X10_83 rfl rfl (Nat.le_of_ble_eq_true rfl) ⟨Nat.le_of_ble_eq_true rfl, Nat.le_of_ble_eq_true rfl⟩ rfl ?_
  refine G.if_eqB (pc := 4) cx dX10_noStock_4 (tgt := 27) (by decide) (fun cq4 => ?_) (fun cq4 => ?_)
  · skip
    refine G.ldc (pc := 27) cx dX10_noStock_27 (v := (-1000001)) wm_ct_X10_64 ?_
    refine G.iret (pc := 29) cx rfl dX10_noStock_29 ?_ ?_ rfl
    · refine congrArg (fun x => some (Value.int x)) ?_
      (try clear hin9); (try clear cx); first | rfl | (refine b2_t ?_; grind) | (refine b2_f ?_; grind) | (simp [*, zNoStock]; done) | (simp_all [zNoStock]; done) | grind [zNoStock]
    · rfl
  · skip
    obtain ⟨j, hj, rfl⟩ := item_of cq4
    have tj : (nI j).toNatClampNeg = j := nI_clamp (by omega)
    refine G.iload_n (pc := 7) cx dX10_noStock_7 rfl 2 rfl ?_
    refine G.iconst (pc := 8) cx dX10_noStock_8 (v := 1) (by decide) ?_
    refine G.bipush (pc := 9) cx dX10_noStock_9 (v := 99) (by decide) ?_
    refine G.callS0 (pc := 11) (rest := []) (st1 := [.int (b2 (1 ≤ m ∧ m ≤ 99))]) cx (c_X10_in l K sz m 1 99 (mw K o z r V)) ok_X10_in dX10_noStock_11 wm_ml_X10_25 rfl rfl (Nat.le_of_ble_eq_true rfl) ⟨Nat.le_of_ble_eq_true rfl, Nat.le_of_ble_eq_true rfl⟩ rfl ?_
    refine G.if_eqB (pc := 14) cx dX10_noStock_14 (tgt := 27) (by decide) (fun cq14 => ?_) (fun cq14 => ?_)
    · skip
      refine G.ldc (pc := 27) cx dX10_noStock_27 (v := (-1000001)) wm_ct_X10_64 ?_
      refine G.iret (pc := 29) cx rfl dX10_noStock_29 ?_ ?_ rfl
      · refine congrArg (fun x => some (Value.int x)) ?_
        (try clear hin9); (try clear cx); first | rfl | (refine b2_t ?_; grind) | (refine b2_f ?_; grind) | (simp [*, zNoStock]; done) | (simp_all [zNoStock]; done) | grind [zNoStock]
      · rfl
    · skip
      refine G.iload_n (pc := 17) cx dX10_noStock_17 rfl 3 rfl ?_
      refine G.iconst (pc := 18) cx dX10_noStock_18 (v := 1) (by decide) ?_
      refine G.bipush (pc := 19) cx dX10_noStock_19 (v := 99) (by decide) ?_
      refine G.callS0 (pc := 21) (rest := []) (st1 := [.int (b2 (1 ≤ c ∧ c ≤ 99))]) cx (c_X10_in l K sz c 1 99 (mw K o z r V)) ok_X10_in dX10_noStock_21 wm_ml_X10_25 rfl rfl (Nat.le_of_ble_eq_true rfl) ⟨Nat.le_of_ble_eq_true rfl, Nat.le_of_ble_eq_true rfl⟩ rfl ?_
      refine G.if_neB (pc := 24) cx dX10_noStock_24 (tgt := 30) (by decide) (fun cq24 => ?_) (fun cq24 => ?_)
      · skip
        refine G.aload_n (pc := 30) cx dX10_noStock_30 rfl 0 rfl ?_
        refine G.callV0 (pc := 31) (rest := []) (st1 := [.int (b2 (z 191 = 1))]) cx (c_X10_isAtSea l K sz o z r V) ok_X10_isAtSea dX10_noStock_31 wm_ml_X10_65 rfl mw_m rfl rfl (Nat.le_of_ble_eq_true rfl) ⟨Nat.le_of_ble_eq_true rfl, Nat.le_of_ble_eq_true rfl⟩ rfl ?_
        refine G.if_eqB (pc := 34) cx dX10_noStock_34 (tgt := 42) (by decide) (fun cq34 => ?_) (fun cq34 => ?_)
        · skip
          refine G.aload_n (pc := 42) cx dX10_noStock_42 rfl 0 rfl ?_
          refine G.iload_n (pc := 43) cx dX10_noStock_43 rfl 1 rfl ?_
          refine G.iconst (pc := 44) cx dX10_noStock_44 (v := 0) (by decide) ?_
          refine G.callV0 (pc := 45) (rest := []) (st1 := [.int (z (160 + 5 * j + 0))]) cx (c_X10_ofItem l K sz o z r V j 0 (by omega)) ok_X10_ofItem dX10_noStock_45 wm_ml_X10_86 rfl mw_m rfl rfl (Nat.le_of_ble_eq_true rfl) ⟨Nat.le_of_ble_eq_true rfl, Nat.le_of_ble_eq_true rfl⟩ rfl ?_
          refine G.iload_n (pc := 48) cx dX10_noStock_48 rfl 2 rfl ?_
          refine G.iadd (pc := 49) cx dX10_noStock_49 ?_
          refine G.sipush (pc := 50) cx dX10_noStock_50 (v := 500) (by decide) ?_
          refine G.icmp_le (pc := 53) cx dX10_noStock_53 (tgt := 61) (by decide) (fun cq53 => ?_) (fun cq53 => ?_)
          · skip
            refine G.iconst (pc := 61) cx dX10_noStock_61 (v := 0) (by decide) ?_
            refine G.iret (pc := 62) cx rfl dX10_noStock_62 ?_ ?_ rfl
            · refine congrArg (fun x => some (Value.int x)) ?_
              (try clear hin9); (try clear cx); first | rfl | (refine b2_t ?_; grind) | (refine b2_f ?_; grind) | (simp [*, zNoStock]; done) | (simp_all [zNoStock]; done) | grind [zNoStock]
            · rfl
          · skip
            refine G.ldc (pc := 56) cx dX10_noStock_56 (v := (-1000003)) wm_ct_X10_69 ?_
            refine G.goto (pc := 58) cx dX10_noStock_58 (tgt := 62) (by decide) ?_
            refine G.iret (pc := 62) cx rfl dX10_noStock_62 ?_ ?_ rfl
            · refine congrArg (fun x => some (Value.int x)) ?_
              (try clear hin9); (try clear cx); first | rfl | (refine b2_t ?_; grind) | (refine b2_f ?_; grind) | (simp [*, zNoStock]; done) | (simp_all [zNoStock]; done) | grind [zNoStock]
            · rfl
        · skip
          refine G.ldc (pc := 37) cx dX10_noStock_37 (v := (-1000002)) wm_ct_X10_37 ?_
          refine G.goto (pc := 39) cx dX10_noStock_39 (tgt := 62) (by decide) ?_
          refine G.iret (pc := 62) cx rfl dX10_noStock_62 ?_ ?_ rfl
          · refine congrArg (fun x => some (Value.int x)) ?_
            (try clear hin9); (try clear cx); first | rfl | (refine b2_t ?_; grind) | (refine b2_f ?_; grind) | (simp [*, zNoStock]; done) | (simp_all [zNoStock]; done) | grind [zNoStock]
          · rfl
      · skip
        refine G.ldc (pc := 27) cx dX10_noStock_27 (v := (-1000001)) wm_ct_X10_64 ?_
        refine G.iret (pc := 29) cx rfl dX10_noStock_29 ?_ ?_ rfl
        · refine congrArg (fun x => some (Value.int x)) ?_
          (try clear hin9); (try clear cx); first | rfl | (refine b2_t ?_; grind) | (refine b2_f ?_; grind) | (simp [*, zNoStock]; done) | (simp_all [zNoStock]; done) | grind [zNoStock]
        · rfl
set_option maxHeartbeats 4000000 in
set_option maxRecDepth 100000 in
theorem c_X10_doStock (l : Launch) (K : KT) (sz : Nat) (o : Nat) (z : Zt) (r : Rt) (V : VW) (j : Nat) (m : Int32) (c : Int32) (hj : j < 6) : Ct l K yX10_doStock cX10_doStock 5 (some .int) 1 [.ref o, .int (nI j), .int m, .int c] (mw K o z r V) sz (some (.int (zPrice z c))) (mw K o (zDoStock z j m c) r V) sz 0 0 := by
  refine Ct.ofG (by decide) (Nat.le_of_ble_eq_true rfl) ?_
  intro p9 e9 s9 m9 a9 b9 t9 c9 cx hin9
  refine G.lv0 (lv2 := [(0, .ref o), (1, .int (nI j)), (2, .int m), (3, .int c)]) rfl ?_
  refine G.sipush (pc := 0) cx dX10_doStock_0 (v := 160) (by decide) ?_
  refine G.iconst (pc := 3) cx dX10_doStock_3 (v := 5) (by decide) ?_
  refine G.iload_n (pc := 4) cx dX10_doStock_4 rfl 1 rfl ?_
  refine G.imulN (pc := 5) cx dX10_doStock_5 5 j ?_
  refine G.iaddN (pc := 6) cx dX10_doStock_6 160 (5 * j) ?_
  refine G.istore (pc := 7) cx dX10_doStock_7 (by decide) rfl ?_
  refine G.aload_n (pc := 9) cx dX10_doStock_9 rfl 1 rfl ?_
  refine G.getM (pc := 10) cx dX10_doStock_10 0 wm_fl_X10_7 (by decide) rfl ?_
  refine G.iload (pc := 13) cx dX10_doStock_13 0 rfl ?_
  refine G.iconst (pc := 15) cx dX10_doStock_15 (v := 0) (by decide) ?_
  refine G.iaddN (pc := 16) cx dX10_doStock_16 (160 + (5 * j)) 0 ?_
  refine G.dup2 (pc := 17) cx dX10_doStock_17 rfl rfl ?_
  refine G.ialdV (pc := 18) cx dX10_doStock_18 mw_z (j := ((160 + (5 * j)) + 0)) rfl (by omega) (by decide) (cut_at (by omega)) ?_
  refine G.iload_n (pc := 19) cx dX10_doStock_19 rfl 3 rfl ?_
  refine G.iadd (pc := 20) cx dX10_doStock_20 ?_
  refine G.iastC (pc := 21) cx dX10_doStock_21 mw_z (j := ((160 + (5 * j)) + 0)) rfl (by omega) (by decide) mwZ ?_
  refine G.aload_n (pc := 22) cx dX10_doStock_22 rfl 1 rfl ?_
  refine G.getM (pc := 23) cx dX10_doStock_23 0 wm_fl_X10_7 (by decide) rfl ?_
  refine G.iload (pc := 26) cx dX10_doStock_26 0 rfl ?_
  refine G.iconst (pc := 28) cx dX10_doStock_28 (v := 2) (by decide) ?_
  refine G.iaddN (pc := 29) cx dX10_doStock_29 (160 + (5 * j)) 2 ?_
  refine G.dup2 (pc := 30) cx dX10_doStock_30 rfl rfl ?_
  refine G.ialdV (pc := 31) cx dX10_doStock_31 mw_z (j := ((160 + (5 * j)) + 2)) rfl (by omega) (by decide) ((cut_at (by omega)).trans (upd_n (i := (160 + (5 * j)) + 0) (j := (160 + (5 * j)) + 2) z ((z ((160 + (5 * j)) + 0)) + m) (by omega))) ?_
  refine G.iload_n (pc := 32) cx dX10_doStock_32 rfl 3 rfl ?_
  refine G.iadd (pc := 33) cx dX10_doStock_33 ?_
  refine G.iastC (pc := 34) cx dX10_doStock_34 mw_z (j := ((160 + (5 * j)) + 2)) rfl (by omega) (by decide) mwZ ?_
  refine G.aload_n (pc := 35) cx dX10_doStock_35 rfl 1 rfl ?_
  refine G.getM (pc := 36) cx dX10_doStock_36 0 wm_fl_X10_7 (by decide) rfl ?_
  refine G.iload (pc := 39) cx dX10_doStock_39 0 rfl ?_
  refine G.iconst (pc := 41) cx dX10_doStock_41 (v := 1) (by decide) ?_
  refine G.iaddN (pc := 42) cx dX10_doStock_42 (160 + (5 * j)) 1 ?_
  refine G.iload_n (pc := 43) cx dX10_doStock_43 rfl 4 rfl ?_
  refine G.iload_n (pc := 44) cx dX10_doStock_44 rfl 4 rfl ?_
  refine G.aload_n (pc := 45) cx dX10_doStock_45 rfl 1 rfl ?_
  refine G.getM (pc := 46) cx dX10_doStock_46 0 wm_fl_X10_7 (by decide) rfl ?_
  refine G.sipush (pc := 49) cx dX10_doStock_49 (v := 204) (by decide) ?_
  refine G.ialdV (pc := 52) cx dX10_doStock_52 mw_z (j := 204) rfl (by omega) (by decide) (cut_at (by omega)) ?_
  refine G.imul (pc := 53) cx dX10_doStock_53 ?_
  refine G.bipush (pc := 54) cx dX10_doStock_54 (v := 100) (by decide) ?_
  refine G.idiv (pc := 56) cx dX10_doStock_56 (by decide) ?_
  refine G.iadd (pc := 57) cx dX10_doStock_57 ?_
  refine G.iastC (pc := 58) cx dX10_doStock_58 mw_z (j := ((160 + (5 * j)) + 1)) rfl (by omega) (by decide) mwZ ?_
  refine G.aload_n (pc := 59) cx dX10_doStock_59 rfl 1 rfl ?_
  refine G.getM (pc := 60) cx dX10_doStock_60 0 wm_fl_X10_7 (by decide) rfl ?_
  refine G.sipush (pc := 63) cx dX10_doStock_63 (v := 197) (by decide) ?_
  refine G.dup2 (pc := 66) cx dX10_doStock_66 rfl rfl ?_
  refine G.ialdV (pc := 67) cx dX10_doStock_67 mw_z (j := 197) rfl (by omega) (by decide) (cut_at (by omega)) ?_
  refine G.iload_n (pc := 68) cx dX10_doStock_68 rfl 3 rfl ?_
  refine G.iload_n (pc := 69) cx dX10_doStock_69 rfl 4 rfl ?_
  refine G.imul (pc := 70) cx dX10_doStock_70 ?_
  refine G.iadd (pc := 71) cx dX10_doStock_71 ?_
  refine G.iastC (pc := 72) cx dX10_doStock_72 mw_z (j := 197) rfl (by omega) (by decide) mwZ ?_
  refine G.aload_n (pc := 73) cx dX10_doStock_73 rfl 1 rfl ?_
  refine G.iload_n (pc := 74) cx dX10_doStock_74 rfl 3 rfl ?_
  refine G.iload_n (pc := 75) cx dX10_doStock_75 rfl 4 rfl ?_
  refine G.imul (pc := 76) cx dX10_doStock_76 ?_
  refine G.callV0 (pc := 77) (rest := []) (st1 := []) cx (c_X10_spend l K sz o (upd (upd (upd (upd z ((160 + (5 * j)) + 0) ((z ((160 + (5 * j)) + 0)) + m)) ((160 + (5 * j)) + 2) ((z ((160 + (5 * j)) + 2)) + m)) ((160 + (5 * j)) + 1) (c + ((c * ((upd (upd z ((160 + (5 * j)) + 0) ((z ((160 + (5 * j)) + 0)) + m)) ((160 + (5 * j)) + 2) ((z ((160 + (5 * j)) + 2)) + m)) 204)) / 100))) 197 (((upd (upd (upd z ((160 + (5 * j)) + 0) ((z ((160 + (5 * j)) + 0)) + m)) ((160 + (5 * j)) + 2) ((z ((160 + (5 * j)) + 2)) + m)) ((160 + (5 * j)) + 1) (c + ((c * ((upd (upd z ((160 + (5 * j)) + 0) ((z ((160 + (5 * j)) + 0)) + m)) ((160 + (5 * j)) + 2) ((z ((160 + (5 * j)) + 2)) + m)) 204)) / 100))) 197) + (m * c))) r V (m * c)) ok_X10_spend dX10_doStock_77 wm_ml_X10_60 rfl mw_m rfl rfl (Nat.le_of_ble_eq_true rfl) ⟨Nat.le_of_ble_eq_true rfl, Nat.le_of_ble_eq_true rfl⟩ rfl ?_
  refine G.aload_n (pc := 80) cx dX10_doStock_80 rfl 1 rfl ?_
  refine G.getM (pc := 81) cx dX10_doStock_81 0 wm_fl_X10_7 (by decide) rfl ?_
  refine G.iload (pc := 84) cx dX10_doStock_84 0 rfl ?_
  refine G.iconst (pc := 86) cx dX10_doStock_86 (v := 1) (by decide) ?_
  refine G.iaddN (pc := 87) cx dX10_doStock_87 (160 + (5 * j)) 1 ?_
  refine G.ialdV (pc := 88) cx dX10_doStock_88 mw_z (j := ((160 + (5 * j)) + 1)) rfl (by omega) (by decide) (cut_at (by omega)) ?_
  refine G.iret (pc := 89) cx rfl dX10_doStock_89 ?_ ?_ rfl
  · refine congrArg (fun x => some (Value.int x)) ?_
    (try clear hin9); (try clear cx); simp (disch := omega) only [zSpend, upd_n, upd_s, zPrice]
  · refine congrArg (fun x => mw K o x r V) ?_
    (try clear hin9); (try clear cx); simp (disch := omega) only [zDoStock, upd_n, upd_s, zPrice]
set_option maxHeartbeats 4000000 in
set_option maxRecDepth 100000 in
theorem c_X10_stock (l : Launch) (K : KT) (sz : Nat) (o : Nat) (z : Zt) (r : Rt) (V : VW) (i : Int32) (m : Int32) (c : Int32) (n : Nat) (hn : r.2.2.2.2 0 = nI n) (h4 : n ≤ 4) : Ct l K yX10_stock cX10_stock 5 (some .int) 3 [.ref o, .int i, .int m, .int c] (mw K o z r V) sz (some (.int (if zNoStock z i m c < 0 then zNoStock z i m c else zPrice z c))) (mw K o (if zNoStock z i m c < 0 then z else zDoStock z (i).toNatClampNeg m c) (if zNoStock z i m c < 0 then r else rRec r n z) V) sz 0 0 := by
  refine Ct.ofG (by decide) (Nat.le_of_ble_eq_true rfl) ?_
  intro p9 e9 s9 m9 a9 b9 t9 c9 cx hin9
  refine G.lv0 (lv2 := [(0, .ref o), (1, .int i), (2, .int m), (3, .int c)]) rfl ?_
  refine G.aload_n (pc := 0) cx dX10_stock_0 rfl 0 rfl ?_
  refine G.iload_n (pc := 1) cx dX10_stock_1 rfl 1 rfl ?_
  refine G.iload_n (pc := 2) cx dX10_stock_2 rfl 2 rfl ?_
  refine G.iload_n (pc := 3) cx dX10_stock_3 rfl 3 rfl ?_
  refine G.callV0 (pc := 4) (rest := []) (st1 := [.int (zNoStock z i m c)]) cx (c_X10_noStock l K sz o z r V i m c) ok_X10_noStock dX10_stock_4 wm_ml_X10_89 rfl mw_m rfl rfl (Nat.le_of_ble_eq_true rfl) ⟨Nat.le_of_ble_eq_true rfl, Nat.le_of_ble_eq_true rfl⟩ rfl ?_
  refine G.istore (pc := 7) cx dX10_stock_7 (by decide) rfl ?_
  refine G.iload (pc := 9) cx dX10_stock_9 0 rfl ?_
  refine G.if_ge (pc := 11) cx dX10_stock_11 (tgt := 17) (by decide) (fun cq11 => ?_) (fun cq11 => ?_)
  · skip
    obtain ⟨j, hj, rfl⟩ := item_of (zNoStock_ok cq11)
    have tj : (nI j).toNatClampNeg = j := nI_clamp (by omega)
    refine G.aload_n (pc := 17) cx dX10_stock_17 rfl 1 rfl ?_
    refine G.aload_n (pc := 18) cx dX10_stock_18 rfl 1 rfl ?_
    refine G.getM (pc := 19) cx dX10_stock_19 0 wm_fl_X10_7 (by decide) rfl ?_
    refine G.callV0 (pc := 22) (rest := []) (st1 := []) cx (c_X10_record l K sz o z r V n (by first | assumption | simp [*]) (by omega)) ok_X10_record dX10_stock_22 wm_ml_X10_76 rfl mw_m rfl rfl (Nat.le_of_ble_eq_true rfl) ⟨Nat.le_of_ble_eq_true rfl, Nat.le_of_ble_eq_true rfl⟩ rfl ?_
    refine G.aload_n (pc := 25) cx dX10_stock_25 rfl 1 rfl ?_
    refine G.iload_n (pc := 26) cx dX10_stock_26 rfl 2 rfl ?_
    refine G.iload_n (pc := 27) cx dX10_stock_27 rfl 3 rfl ?_
    refine G.iload_n (pc := 28) cx dX10_stock_28 rfl 4 rfl ?_
    refine G.callV0 (pc := 29) (rest := []) (st1 := [.int (zPrice z c)]) cx (c_X10_doStock l K sz o z (rRec r n z) V j m c (by omega)) ok_X10_doStock dX10_stock_29 wm_ml_X10_92 rfl mw_m rfl rfl (Nat.le_of_ble_eq_true rfl) ⟨Nat.le_of_ble_eq_true rfl, Nat.le_of_ble_eq_true rfl⟩ rfl ?_
    refine G.iret (pc := 32) cx rfl dX10_stock_32 ?_ ?_ rfl
    · refine congrArg (fun x => some (Value.int x)) ?_
      (try clear hin9); (try clear cx); first | (rw [if_pos (Int32.not_le.mp cq11)]; done) | (rw [if_neg (Int32.not_lt.mpr cq11)]; done) | (rw [if_neg (Int32.not_lt.mpr cq11)]; rfl)
    · show _ = _
      (try clear hin9); (try clear cx); rw [if_neg (Int32.not_lt.mpr cq11), if_neg (Int32.not_lt.mpr cq11), tj]
  · skip
    refine G.iload (pc := 14) cx dX10_stock_14 0 rfl ?_
    refine G.iret (pc := 16) cx rfl dX10_stock_16 ?_ ?_ rfl
    · refine congrArg (fun x => some (Value.int x)) ?_
      (try clear hin9); (try clear cx); first | (rw [if_pos (Int32.not_le.mp cq11)]; done) | (rw [if_neg (Int32.not_lt.mpr cq11)]; done) | (rw [if_neg (Int32.not_lt.mpr cq11)]; rfl)
    · show _ = _
      (try clear hin9); (try clear cx); first | (rw [if_pos (Int32.not_le.mp cq11), if_pos (Int32.not_le.mp cq11)]; done) | (rw [if_neg (Int32.not_lt.mpr cq11), if_neg (Int32.not_lt.mpr cq11)]; done) | (rw [if_neg (Int32.not_lt.mpr cq11), if_neg (Int32.not_lt.mpr cq11)]; rfl)
set_option maxHeartbeats 4000000 in
set_option maxRecDepth 100000 in
theorem c_X10_whyNot (l : Launch) (K : KT) (sz : Nat) (o : Nat) (z : Zt) (r : Rt) (V : VW) (k : Nat) (j : Nat) (m : Int32) (h : k < 16) (hj : j < 6) : Ct l K yX10_whyNot cX10_whyNot 4 (some .int) 3 [.ref o, .int (nI k), .int (nI j), .int m] (mw K o z r V) sz (some (.int (zWhy z k j m))) (mw K o z r V) sz 0 0 := by
  refine Ct.ofG (by decide) (Nat.le_of_ble_eq_true rfl) ?_
  intro p9 e9 s9 m9 a9 b9 t9 c9 cx hin9
  refine G.lv0 (lv2 := [(0, .ref o), (1, .int (nI k)), (2, .int (nI j)), (3, .int m)]) rfl ?_
  refine G.aload_n (pc := 0) cx dX10_whyNot_0 rfl 0 rfl ?_
  refine G.iload_n (pc := 1) cx dX10_whyNot_1 rfl 1 rfl ?_
  refine G.iconst (pc := 2) cx dX10_whyNot_2 (v := 2) (by decide) ?_
  refine G.callV0 (pc := 3) (rest := []) (st1 := [.int (z (10 * k + 2))]) cx (c_X10_of l K sz o z r V k 2 (by omega)) ok_X10_of dX10_whyNot_3 wm_ml_X10_29 rfl mw_m rfl rfl (Nat.le_of_ble_eq_true rfl) ⟨Nat.le_of_ble_eq_true rfl, Nat.le_of_ble_eq_true rfl⟩ rfl ?_
  refine G.if_eq (pc := 6) cx dX10_whyNot_6 (tgt := 11) (by decide) (fun cq6 => ?_) (fun cq6 => ?_)
  · skip
    refine G.aload_n (pc := 11) cx dX10_whyNot_11 rfl 0 rfl ?_
    refine G.iload_n (pc := 12) cx dX10_whyNot_12 rfl 2 rfl ?_
    refine G.iconst (pc := 13) cx dX10_whyNot_13 (v := 0) (by decide) ?_
    refine G.callV0 (pc := 14) (rest := []) (st1 := [.int (z (160 + 5 * j + 0))]) cx (c_X10_ofItem l K sz o z r V j 0 (by omega)) ok_X10_ofItem dX10_whyNot_14 wm_ml_X10_86 rfl mw_m rfl rfl (Nat.le_of_ble_eq_true rfl) ⟨Nat.le_of_ble_eq_true rfl, Nat.le_of_ble_eq_true rfl⟩ rfl ?_
    refine G.iload_n (pc := 17) cx dX10_whyNot_17 rfl 3 rfl ?_
    refine G.icmp_ge (pc := 18) cx dX10_whyNot_18 (tgt := 23) (by decide) (fun cq18 => ?_) (fun cq18 => ?_)
    · skip
      refine G.aload_n (pc := 23) cx dX10_whyNot_23 rfl 0 rfl ?_
      refine G.iload_n (pc := 24) cx dX10_whyNot_24 rfl 1 rfl ?_
      refine G.callV0 (pc := 25) (rest := []) (st1 := [.int (zBal z k)]) cx (c_X10_balance l K sz o z r V k (by omega)) ok_X10_balance dX10_whyNot_25 wm_ml_X10_95 rfl mw_m rfl rfl (Nat.le_of_ble_eq_true rfl) ⟨Nat.le_of_ble_eq_true rfl, Nat.le_of_ble_eq_true rfl⟩ rfl ?_
      refine G.iload_n (pc := 28) cx dX10_whyNot_28 rfl 3 rfl ?_
      refine G.aload_n (pc := 29) cx dX10_whyNot_29 rfl 0 rfl ?_
      refine G.iload_n (pc := 30) cx dX10_whyNot_30 rfl 2 rfl ?_
      refine G.iconst (pc := 31) cx dX10_whyNot_31 (v := 1) (by decide) ?_
      refine G.callV0 (pc := 32) (rest := [.int m, .int (zBal z k)]) (st1 := [.int (z (160 + 5 * j + 1)), .int m, .int (zBal z k)]) cx (c_X10_ofItem l K sz o z r V j 1 (by omega)) ok_X10_ofItem dX10_whyNot_32 wm_ml_X10_86 rfl mw_m rfl rfl (Nat.le_of_ble_eq_true rfl) ⟨Nat.le_of_ble_eq_true rfl, Nat.le_of_ble_eq_true rfl⟩ rfl ?_
      refine G.imul (pc := 35) cx dX10_whyNot_35 ?_
      refine G.isub (pc := 36) cx dX10_whyNot_36 ?_
      refine G.aload_n (pc := 37) cx dX10_whyNot_37 rfl 0 rfl ?_
      refine G.getM (pc := 38) cx dX10_whyNot_38 0 wm_fl_X10_7 (by decide) rfl ?_
      refine G.sipush (pc := 41) cx dX10_whyNot_41 (v := 203) (by decide) ?_
      refine G.ialdV (pc := 44) cx dX10_whyNot_44 mw_z (j := 203) rfl (by omega) (by decide) (cut_at (by omega)) ?_
      refine G.ineg (pc := 45) cx dX10_whyNot_45 ?_
      refine G.icmp_ge (pc := 46) cx dX10_whyNot_46 (tgt := 53) (by decide) (fun cq46 => ?_) (fun cq46 => ?_)
      · skip
        refine G.iconst (pc := 53) cx dX10_whyNot_53 (v := 0) (by decide) ?_
        refine G.iret (pc := 54) cx rfl dX10_whyNot_54 ?_ ?_ rfl
        · refine congrArg (fun x => some (Value.int x)) ?_
          (try clear hin9); (try clear cx); first | rfl | (refine b2_t ?_; grind) | (refine b2_f ?_; grind) | (simp [*, zWhy, Int32.not_lt, Int32.not_le]; done) | (simp_all [zWhy, Int32.not_lt, Int32.not_le]; done) | grind [zWhy, Int32.not_lt, Int32.not_le]
        · rfl
      · skip
        refine G.iconst (pc := 49) cx dX10_whyNot_49 (v := 3) (by decide) ?_
        refine G.goto (pc := 50) cx dX10_whyNot_50 (tgt := 54) (by decide) ?_
        refine G.iret (pc := 54) cx rfl dX10_whyNot_54 ?_ ?_ rfl
        · refine congrArg (fun x => some (Value.int x)) ?_
          (try clear hin9); (try clear cx); first | rfl | (refine b2_t ?_; grind) | (refine b2_f ?_; grind) | (simp [*, zWhy, Int32.not_lt, Int32.not_le]; done) | (simp_all [zWhy, Int32.not_lt, Int32.not_le]; done) | grind [zWhy, Int32.not_lt, Int32.not_le]
        · rfl
    · skip
      refine G.iconst (pc := 21) cx dX10_whyNot_21 (v := 2) (by decide) ?_
      refine G.iret (pc := 22) cx rfl dX10_whyNot_22 ?_ ?_ rfl
      · refine congrArg (fun x => some (Value.int x)) ?_
        (try clear hin9); (try clear cx); first | rfl | (refine b2_t ?_; grind) | (refine b2_f ?_; grind) | (simp [*, zWhy, Int32.not_lt, Int32.not_le]; done) | (simp_all [zWhy, Int32.not_lt, Int32.not_le]; done) | grind [zWhy, Int32.not_lt, Int32.not_le]
      · rfl
  · skip
    refine G.iconst (pc := 9) cx dX10_whyNot_9 (v := 1) (by decide) ?_
    refine G.iret (pc := 10) cx rfl dX10_whyNot_10 ?_ ?_ rfl
    · refine congrArg (fun x => some (Value.int x)) ?_
      (try clear hin9); (try clear cx); first | rfl | (refine b2_t ?_; grind) | (refine b2_f ?_; grind) | (simp [*, zWhy, Int32.not_lt, Int32.not_le]; done) | (simp_all [zWhy, Int32.not_lt, Int32.not_le]; done) | grind [zWhy, Int32.not_lt, Int32.not_le]
    · rfl
set_option maxHeartbeats 4000000 in
set_option maxRecDepth 100000 in
theorem c_X10_noSell (l : Launch) (K : KT) (sz : Nat) (o : Nat) (z : Zt) (r : Rt) (V : VW) (a : Int32) (i : Int32) (m : Int32) (N : Nat) (hN : z 194 = nI N) (h16 : N ≤ 16) : Ct l K yX10_noSell cX10_noSell 4 (some .int) 4 [.ref o, .int a, .int i, .int m] (mw K o z r V) sz (some (.int (zNoSell z a i m))) (mw K o z r V) sz 0 0 := by
  refine Ct.ofG (by decide) (Nat.le_of_ble_eq_true rfl) ?_
  intro p9 e9 s9 m9 a9 b9 t9 c9 cx hin9
  refine G.lv0 (lv2 := [(0, .ref o), (1, .int a), (2, .int i), (3, .int m)]) rfl ?_
  refine G.aload_n (pc := 0) cx dX10_noSell_0 rfl 0 rfl ?_
  refine G.iload_n (pc := 1) cx dX10_noSell_1 rfl 1 rfl ?_
  refine G.callV0 (pc := 2) (rest := []) (st1 := [.int (b2 (0 ≤ a ∧ a ≤ z 194 - 1))]) cx (c_X10_isSailor l K sz o z r V a) ok_X10_isSailor dX10_noSell_2 wm_ml_X10_98 rfl mw_m rfl rfl (Nat.le_of_ble_eq_true rfl) ⟨Nat.le_of_ble_eq_true rfl, Nat.le_of_ble_eq_true rfl⟩ rfl ?_
  refine G.if_eqB (pc := 5) cx dX10_noSell_5 (tgt := 25) (by decide) (fun cq5 => ?_) (fun cq5 => ?_)
  · skip
    refine G.ldc (pc := 25) cx dX10_noSell_25 (v := (-1000001)) wm_ct_X10_64 ?_
    refine G.iret (pc := 27) cx rfl dX10_noSell_27 ?_ ?_ rfl
    · refine congrArg (fun x => some (Value.int x)) ?_
      (try clear hin9); (try clear cx); first | rfl | (refine b2_t ?_; grind) | (refine b2_f ?_; grind) | (simp [*, zNoSell]; done) | (simp_all [zNoSell]; done) | grind [zNoSell]
    · rfl
  · skip
    obtain ⟨k, hk, rfl⟩ := sail_of hN h16 cq5
    have tk : (nI k).toNatClampNeg = k := nI_clamp (by omega)
    refine G.iload_n (pc := 8) cx dX10_noSell_8 rfl 2 rfl ?_
    refine G.callS0 (pc := 9) (rest := []) (st1 := [.int (b2 (0 ≤ i ∧ i ≤ 5))]) cx (c_X10_isItem l K sz i (mw K o z r V)) ok_X10_isItem dX10_noSell_9 wm_ml_X10_83 rfl rfl (Nat.le_of_ble_eq_true rfl) ⟨Nat.le_of_ble_eq_true rfl, Nat.le_of_ble_eq_true rfl⟩ rfl ?_
    refine G.if_eqB (pc := 12) cx dX10_noSell_12 (tgt := 25) (by decide) (fun cq12 => ?_) (fun cq12 => ?_)
    · skip
      refine G.ldc (pc := 25) cx dX10_noSell_25 (v := (-1000001)) wm_ct_X10_64 ?_
      refine G.iret (pc := 27) cx rfl dX10_noSell_27 ?_ ?_ rfl
      · refine congrArg (fun x => some (Value.int x)) ?_
        (try clear hin9); (try clear cx); first | rfl | (refine b2_t ?_; grind) | (refine b2_f ?_; grind) | (simp [*, zNoSell]; done) | (simp_all [zNoSell]; done) | grind [zNoSell]
      · rfl
    · skip
      obtain ⟨j, hj, rfl⟩ := item_of cq12
      have tj : (nI j).toNatClampNeg = j := nI_clamp (by omega)
      refine G.iload_n (pc := 15) cx dX10_noSell_15 rfl 3 rfl ?_
      refine G.iconst (pc := 16) cx dX10_noSell_16 (v := 1) (by decide) ?_
      refine G.bipush (pc := 17) cx dX10_noSell_17 (v := 99) (by decide) ?_
      refine G.callS0 (pc := 19) (rest := []) (st1 := [.int (b2 (1 ≤ m ∧ m ≤ 99))]) cx (c_X10_in l K sz m 1 99 (mw K o z r V)) ok_X10_in dX10_noSell_19 wm_ml_X10_25 rfl rfl (Nat.le_of_ble_eq_true rfl) ⟨Nat.le_of_ble_eq_true rfl, Nat.le_of_ble_eq_true rfl⟩ rfl ?_
      refine G.if_neB (pc := 22) cx dX10_noSell_22 (tgt := 28) (by decide) (fun cq22 => ?_) (fun cq22 => ?_)
      · skip
        refine G.aload_n (pc := 28) cx dX10_noSell_28 rfl 0 rfl ?_
        refine G.iload_n (pc := 29) cx dX10_noSell_29 rfl 1 rfl ?_
        refine G.iload_n (pc := 30) cx dX10_noSell_30 rfl 2 rfl ?_
        refine G.iload_n (pc := 31) cx dX10_noSell_31 rfl 3 rfl ?_
        refine G.callV0 (pc := 32) (rest := []) (st1 := [.int (zWhy z k j m)]) cx (c_X10_whyNot l K sz o z r V k j m (by omega) (by omega)) ok_X10_whyNot dX10_noSell_32 wm_ml_X10_101 rfl mw_m rfl rfl (Nat.le_of_ble_eq_true rfl) ⟨Nat.le_of_ble_eq_true rfl, Nat.le_of_ble_eq_true rfl⟩ rfl ?_
        refine G.if_le (pc := 35) cx dX10_noSell_35 (tgt := 43) (by decide) (fun cq35 => ?_) (fun cq35 => ?_)
        · skip
          refine G.iconst (pc := 43) cx dX10_noSell_43 (v := 0) (by decide) ?_
          refine G.iret (pc := 44) cx rfl dX10_noSell_44 ?_ ?_ rfl
          · refine congrArg (fun x => some (Value.int x)) ?_
            (try clear hin9); (try clear cx); first | rfl | (refine b2_t ?_; grind) | (refine b2_f ?_; grind) | (simp [*, zNoSell]; done) | (simp_all [zNoSell]; done) | grind [zNoSell]
          · rfl
        · skip
          refine G.ldc (pc := 38) cx dX10_noSell_38 (v := (-1000002)) wm_ct_X10_37 ?_
          refine G.goto (pc := 40) cx dX10_noSell_40 (tgt := 44) (by decide) ?_
          refine G.iret (pc := 44) cx rfl dX10_noSell_44 ?_ ?_ rfl
          · refine congrArg (fun x => some (Value.int x)) ?_
            (try clear hin9); (try clear cx); first | rfl | (refine b2_t ?_; grind) | (refine b2_f ?_; grind) | (simp [*, zNoSell]; done) | (simp_all [zNoSell]; done) | grind [zNoSell]
          · rfl
      · skip
        refine G.ldc (pc := 25) cx dX10_noSell_25 (v := (-1000001)) wm_ct_X10_64 ?_
        refine G.iret (pc := 27) cx rfl dX10_noSell_27 ?_ ?_ rfl
        · refine congrArg (fun x => some (Value.int x)) ?_
          (try clear hin9); (try clear cx); first | rfl | (refine b2_t ?_; grind) | (refine b2_f ?_; grind) | (simp [*, zNoSell]; done) | (simp_all [zNoSell]; done) | grind [zNoSell]
        · rfl
set_option maxHeartbeats 4000000 in
set_option maxRecDepth 100000 in
theorem c_X10_doSell (l : Launch) (K : KT) (sz : Nat) (o : Nat) (z : Zt) (r : Rt) (V : VW) (k : Nat) (j : Nat) (m : Int32) (h : k < 16) (hj : j < 6) : Ct l K yX10_doSell cX10_doSell 6 (some .int) 3 [.ref o, .int (nI k), .int (nI j), .int m] (mw K o z r V) sz (some (.int (m * z (160 + 5 * j + 1)))) (mw K o (zDoSell z k j m) r V) sz 0 0 := by
  refine Ct.ofG (by decide) (Nat.le_of_ble_eq_true rfl) ?_
  intro p9 e9 s9 m9 a9 b9 t9 c9 cx hin9
  refine G.lv0 (lv2 := [(0, .ref o), (1, .int (nI k)), (2, .int (nI j)), (3, .int m)]) rfl ?_
  refine G.iload_n (pc := 0) cx dX10_doSell_0 rfl 3 rfl ?_
  refine G.aload_n (pc := 1) cx dX10_doSell_1 rfl 0 rfl ?_
  refine G.iload_n (pc := 2) cx dX10_doSell_2 rfl 2 rfl ?_
  refine G.iconst (pc := 3) cx dX10_doSell_3 (v := 1) (by decide) ?_
  refine G.callV0 (pc := 4) (rest := [.int m]) (st1 := [.int (z (160 + 5 * j + 1)), .int m]) cx (c_X10_ofItem l K sz o z r V j 1 (by omega)) ok_X10_ofItem dX10_doSell_4 wm_ml_X10_86 rfl mw_m rfl rfl (Nat.le_of_ble_eq_true rfl) ⟨Nat.le_of_ble_eq_true rfl, Nat.le_of_ble_eq_true rfl⟩ rfl ?_
  refine G.imul (pc := 7) cx dX10_doSell_7 ?_
  refine G.istore (pc := 8) cx dX10_doSell_8 (by decide) rfl ?_
  refine G.sipush (pc := 10) cx dX10_doSell_10 (v := 160) (by decide) ?_
  refine G.iconst (pc := 13) cx dX10_doSell_13 (v := 5) (by decide) ?_
  refine G.iload_n (pc := 14) cx dX10_doSell_14 rfl 3 rfl ?_
  refine G.imulN (pc := 15) cx dX10_doSell_15 5 j ?_
  refine G.iaddN (pc := 16) cx dX10_doSell_16 160 (5 * j) ?_
  refine G.istore (pc := 17) cx dX10_doSell_17 (by decide) rfl ?_
  refine G.aload_n (pc := 19) cx dX10_doSell_19 rfl 2 rfl ?_
  refine G.getM (pc := 20) cx dX10_doSell_20 0 wm_fl_X10_7 (by decide) rfl ?_
  refine G.iload (pc := 23) cx dX10_doSell_23 0 rfl ?_
  refine G.iconst (pc := 25) cx dX10_doSell_25 (v := 0) (by decide) ?_
  refine G.iaddN (pc := 26) cx dX10_doSell_26 (160 + (5 * j)) 0 ?_
  refine G.dup2 (pc := 27) cx dX10_doSell_27 rfl rfl ?_
  refine G.ialdV (pc := 28) cx dX10_doSell_28 mw_z (j := ((160 + (5 * j)) + 0)) rfl (by omega) (by decide) (cut_at (by omega)) ?_
  refine G.iload_n (pc := 29) cx dX10_doSell_29 rfl 5 rfl ?_
  refine G.isub (pc := 30) cx dX10_doSell_30 ?_
  refine G.iastC (pc := 31) cx dX10_doSell_31 mw_z (j := ((160 + (5 * j)) + 0)) rfl (by omega) (by decide) mwZ ?_
  refine G.aload_n (pc := 32) cx dX10_doSell_32 rfl 2 rfl ?_
  refine G.getM (pc := 33) cx dX10_doSell_33 0 wm_fl_X10_7 (by decide) rfl ?_
  refine G.iload (pc := 36) cx dX10_doSell_36 0 rfl ?_
  refine G.iconst (pc := 38) cx dX10_doSell_38 (v := 3) (by decide) ?_
  refine G.iaddN (pc := 39) cx dX10_doSell_39 (160 + (5 * j)) 3 ?_
  refine G.dup2 (pc := 40) cx dX10_doSell_40 rfl rfl ?_
  refine G.ialdV (pc := 41) cx dX10_doSell_41 mw_z (j := ((160 + (5 * j)) + 3)) rfl (by omega) (by decide) ((cut_at (by omega)).trans (upd_n (i := (160 + (5 * j)) + 0) (j := (160 + (5 * j)) + 3) z ((z ((160 + (5 * j)) + 0)) - m) (by omega))) ?_
  refine G.iload_n (pc := 42) cx dX10_doSell_42 rfl 5 rfl ?_
  refine G.iadd (pc := 43) cx dX10_doSell_43 ?_
  refine G.iastC (pc := 44) cx dX10_doSell_44 mw_z (j := ((160 + (5 * j)) + 3)) rfl (by omega) (by decide) mwZ ?_
  refine G.aload_n (pc := 45) cx dX10_doSell_45 rfl 2 rfl ?_
  refine G.getM (pc := 46) cx dX10_doSell_46 0 wm_fl_X10_7 (by decide) rfl ?_
  refine G.iload (pc := 49) cx dX10_doSell_49 0 rfl ?_
  refine G.iconst (pc := 51) cx dX10_doSell_51 (v := 4) (by decide) ?_
  refine G.iaddN (pc := 52) cx dX10_doSell_52 (160 + (5 * j)) 4 ?_
  refine G.dup2 (pc := 53) cx dX10_doSell_53 rfl rfl ?_
  refine G.ialdV (pc := 54) cx dX10_doSell_54 mw_z (j := ((160 + (5 * j)) + 4)) rfl (by omega) (by decide) ((cut_at (by omega)).trans ((upd_n (i := (160 + (5 * j)) + 3) (j := (160 + (5 * j)) + 4) (upd z ((160 + (5 * j)) + 0) ((z ((160 + (5 * j)) + 0)) - m)) ((z ((160 + (5 * j)) + 3)) + m) (by omega)).trans (upd_n (i := (160 + (5 * j)) + 0) (j := (160 + (5 * j)) + 4) z ((z ((160 + (5 * j)) + 0)) - m) (by omega)))) ?_
  refine G.iload (pc := 55) cx dX10_doSell_55 1 rfl ?_
  refine G.iadd (pc := 57) cx dX10_doSell_57 ?_
  refine G.iastC (pc := 58) cx dX10_doSell_58 mw_z (j := ((160 + (5 * j)) + 4)) rfl (by omega) (by decide) mwZ ?_
  refine G.aload_n (pc := 59) cx dX10_doSell_59 rfl 2 rfl ?_
  refine G.iload_n (pc := 60) cx dX10_doSell_60 rfl 3 rfl ?_
  refine G.iconst (pc := 61) cx dX10_doSell_61 (v := 5) (by decide) ?_
  refine G.iload (pc := 62) cx dX10_doSell_62 1 rfl ?_
  refine G.callV0 (pc := 64) (rest := []) (st1 := []) cx (c_X10_charge l K sz o (upd (upd (upd z ((160 + (5 * j)) + 0) ((z ((160 + (5 * j)) + 0)) - m)) ((160 + (5 * j)) + 3) ((z ((160 + (5 * j)) + 3)) + m)) ((160 + (5 * j)) + 4) ((z ((160 + (5 * j)) + 4)) + (m * (z (160 + 5 * j + 1))))) r V k 5 (m * (z (160 + 5 * j + 1))) (by omega) (by omega)) ok_X10_charge dX10_doSell_64 wm_ml_X10_104 rfl mw_m rfl rfl (Nat.le_of_ble_eq_true rfl) ⟨Nat.le_of_ble_eq_true rfl, Nat.le_of_ble_eq_true rfl⟩ rfl ?_
  refine G.iload (pc := 67) cx dX10_doSell_67 1 rfl ?_
  refine G.iret (pc := 69) cx rfl dX10_doSell_69 ?_ ?_ rfl
  · refine congrArg (fun x => some (Value.int x)) ?_
    (try clear hin9); (try clear cx); first | rfl | (refine b2_t ?_; grind) | (refine b2_f ?_; grind) | (simp [*]; done) | (simp_all; done) | grind
  · refine congrArg (fun x => mw K o x r V) ?_
    (try clear hin9); (try clear cx); rfl
set_option maxHeartbeats 4000000 in
set_option maxRecDepth 100000 in
theorem c_X10_sell (l : Launch) (K : KT) (sz : Nat) (o : Nat) (z : Zt) (r : Rt) (V : VW) (a : Int32) (i : Int32) (m : Int32) (N : Nat) (n : Nat) (hN : z 194 = nI N) (h16 : N ≤ 16) (hn : r.2.2.2.2 0 = nI n) (h4 : n ≤ 4) : Ct l K yX10_sell cX10_sell 5 (some .int) 5 [.ref o, .int a, .int i, .int m] (mw K o z r V) sz (some (.int (if zNoSell z a i m < 0 then zNoSell z a i m else m * z (160 + 5 * (i).toNatClampNeg + 1)))) (mw K o (if zNoSell z a i m < 0 then z else zDoSell z (a).toNatClampNeg (i).toNatClampNeg m) (if zNoSell z a i m < 0 then r else rRec r n z) V) sz 0 0 := by
  refine Ct.ofG (by decide) (Nat.le_of_ble_eq_true rfl) ?_
  intro p9 e9 s9 m9 a9 b9 t9 c9 cx hin9
  refine G.lv0 (lv2 := [(0, .ref o), (1, .int a), (2, .int i), (3, .int m)]) rfl ?_
  refine G.aload_n (pc := 0) cx dX10_sell_0 rfl 0 rfl ?_
  refine G.iload_n (pc := 1) cx dX10_sell_1 rfl 1 rfl ?_
  refine G.iload_n (pc := 2) cx dX10_sell_2 rfl 2 rfl ?_
  refine G.iload_n (pc := 3) cx dX10_sell_3 rfl 3 rfl ?_
  refine G.callV0 (pc := 4) (rest := []) (st1 := [.int (zNoSell z a i m)]) cx (c_X10_noSell l K sz o z r V a i m N (by assumption) (by omega)) ok_X10_noSell dX10_sell_4 wm_ml_X10_107 rfl mw_m rfl rfl (Nat.le_of_ble_eq_true rfl) ⟨Nat.le_of_ble_eq_true rfl, Nat.le_of_ble_eq_true rfl⟩ rfl ?_
  refine G.istore (pc := 7) cx dX10_sell_7 (by decide) rfl ?_
  refine G.iload (pc := 9) cx dX10_sell_9 0 rfl ?_
  refine G.if_ge (pc := 11) cx dX10_sell_11 (tgt := 17) (by decide) (fun cq11 => ?_) (fun cq11 => ?_)
  · skip
    obtain ⟨q1, q2⟩ := zNoSell_ok cq11
    obtain ⟨k, hk, rfl⟩ := sail_of hN h16 q1
    obtain ⟨j, hj, rfl⟩ := item_of q2
    have tk : (nI k).toNatClampNeg = k := nI_clamp (by omega)
    have tj : (nI j).toNatClampNeg = j := nI_clamp (by omega)
    refine G.aload_n (pc := 17) cx dX10_sell_17 rfl 1 rfl ?_
    refine G.aload_n (pc := 18) cx dX10_sell_18 rfl 1 rfl ?_
    refine G.getM (pc := 19) cx dX10_sell_19 0 wm_fl_X10_7 (by decide) rfl ?_
    refine G.callV0 (pc := 22) (rest := []) (st1 := []) cx (c_X10_record l K sz o z r V n (by first | assumption | simp [*]) (by omega)) ok_X10_record dX10_sell_22 wm_ml_X10_76 rfl mw_m rfl rfl (Nat.le_of_ble_eq_true rfl) ⟨Nat.le_of_ble_eq_true rfl, Nat.le_of_ble_eq_true rfl⟩ rfl ?_
    refine G.aload_n (pc := 25) cx dX10_sell_25 rfl 1 rfl ?_
    refine G.iload_n (pc := 26) cx dX10_sell_26 rfl 2 rfl ?_
    refine G.iload_n (pc := 27) cx dX10_sell_27 rfl 3 rfl ?_
    refine G.iload_n (pc := 28) cx dX10_sell_28 rfl 4 rfl ?_
    refine G.callV0 (pc := 29) (rest := []) (st1 := [.int (m * z (160 + 5 * j + 1))]) cx (c_X10_doSell l K sz o z (rRec r n z) V k j m (by omega) (by omega)) ok_X10_doSell dX10_sell_29 wm_ml_X10_110 rfl mw_m rfl rfl (Nat.le_of_ble_eq_true rfl) ⟨Nat.le_of_ble_eq_true rfl, Nat.le_of_ble_eq_true rfl⟩ rfl ?_
    refine G.iret (pc := 32) cx rfl dX10_sell_32 ?_ ?_ rfl
    · refine congrArg (fun x => some (Value.int x)) ?_
      (try clear hin9); (try clear cx); rw [if_neg (Int32.not_lt.mpr cq11), tj]
    · show _ = _
      (try clear hin9); (try clear cx); rw [if_neg (Int32.not_lt.mpr cq11), if_neg (Int32.not_lt.mpr cq11), tj, tk]
  · skip
    refine G.iload (pc := 14) cx dX10_sell_14 0 rfl ?_
    refine G.iret (pc := 16) cx rfl dX10_sell_16 ?_ ?_ rfl
    · refine congrArg (fun x => some (Value.int x)) ?_
      (try clear hin9); (try clear cx); first | (rw [if_pos (Int32.not_le.mp cq11)]; done) | (rw [if_neg (Int32.not_lt.mpr cq11)]; done) | (rw [if_neg (Int32.not_lt.mpr cq11)]; rfl)
    · show _ = _
      (try clear hin9); (try clear cx); first | (rw [if_pos (Int32.not_le.mp cq11), if_pos (Int32.not_le.mp cq11)]; done) | (rw [if_neg (Int32.not_lt.mpr cq11), if_neg (Int32.not_lt.mpr cq11)]; done) | (rw [if_neg (Int32.not_lt.mpr cq11), if_neg (Int32.not_lt.mpr cq11)]; rfl)
set_option maxHeartbeats 4000000 in
set_option maxRecDepth 100000 in
theorem c_X10_noAdvance (l : Launch) (K : KT) (sz : Nat) (o : Nat) (z : Zt) (r : Rt) (V : VW) (a : Int32) (x : Int32) (N : Nat) (hN : z 194 = nI N) (h16 : N ≤ 16) : Ct l K yX10_noAdvance cX10_noAdvance 3 (some .int) 3 [.ref o, .int a, .int x] (mw K o z r V) sz (some (.int (zNoAdv z a x))) (mw K o z r V) sz 0 0 := by
  refine Ct.ofG (by decide) (Nat.le_of_ble_eq_true rfl) ?_
  intro p9 e9 s9 m9 a9 b9 t9 c9 cx hin9
  refine G.lv0 (lv2 := [(0, .ref o), (1, .int a), (2, .int x)]) rfl ?_
  refine G.aload_n (pc := 0) cx dX10_noAdvance_0 rfl 0 rfl ?_
  refine G.iload_n (pc := 1) cx dX10_noAdvance_1 rfl 1 rfl ?_
  refine G.callV0 (pc := 2) (rest := []) (st1 := [.int (b2 (0 ≤ a ∧ a ≤ z 194 - 1))]) cx (c_X10_isSailor l K sz o z r V a) ok_X10_isSailor dX10_noAdvance_2 wm_ml_X10_98 rfl mw_m rfl rfl (Nat.le_of_ble_eq_true rfl) ⟨Nat.le_of_ble_eq_true rfl, Nat.le_of_ble_eq_true rfl⟩ rfl ?_
  refine G.if_eqB (pc := 5) cx dX10_noAdvance_5 (tgt := 19) (by decide) (fun cq5 => ?_) (fun cq5 => ?_)
  · skip
    refine G.ldc (pc := 19) cx dX10_noAdvance_19 (v := (-1000001)) wm_ct_X10_64 ?_
    refine G.iret (pc := 21) cx rfl dX10_noAdvance_21 ?_ ?_ rfl
    · refine congrArg (fun x => some (Value.int x)) ?_
      (try clear hin9); (try clear cx); first | rfl | (refine b2_t ?_; grind) | (refine b2_f ?_; grind) | (simp [*, zNoAdv, Int32.not_lt, Int32.not_le]; done) | (simp_all [zNoAdv, Int32.not_lt, Int32.not_le]; done) | grind [zNoAdv, Int32.not_lt, Int32.not_le]
    · rfl
  · skip
    obtain ⟨k, hk, rfl⟩ := sail_of hN h16 cq5
    have tk : (nI k).toNatClampNeg = k := nI_clamp (by omega)
    refine G.iload_n (pc := 8) cx dX10_noAdvance_8 rfl 2 rfl ?_
    refine G.iconst (pc := 9) cx dX10_noAdvance_9 (v := 1) (by decide) ?_
    refine G.sipush (pc := 10) cx dX10_noAdvance_10 (v := 999) (by decide) ?_
    refine G.callS0 (pc := 13) (rest := []) (st1 := [.int (b2 (1 ≤ x ∧ x ≤ 999))]) cx (c_X10_in l K sz x 1 999 (mw K o z r V)) ok_X10_in dX10_noAdvance_13 wm_ml_X10_25 rfl rfl (Nat.le_of_ble_eq_true rfl) ⟨Nat.le_of_ble_eq_true rfl, Nat.le_of_ble_eq_true rfl⟩ rfl ?_
    refine G.if_neB (pc := 16) cx dX10_noAdvance_16 (tgt := 22) (by decide) (fun cq16 => ?_) (fun cq16 => ?_)
    · skip
      refine G.aload_n (pc := 22) cx dX10_noAdvance_22 rfl 0 rfl ?_
      refine G.callV0 (pc := 23) (rest := []) (st1 := [.int (b2 (z 191 = 1))]) cx (c_X10_isAtSea l K sz o z r V) ok_X10_isAtSea dX10_noAdvance_23 wm_ml_X10_65 rfl mw_m rfl rfl (Nat.le_of_ble_eq_true rfl) ⟨Nat.le_of_ble_eq_true rfl, Nat.le_of_ble_eq_true rfl⟩ rfl ?_
      refine G.if_neB (pc := 26) cx dX10_noAdvance_26 (tgt := 46) (by decide) (fun cq26 => ?_) (fun cq26 => ?_)
      · skip
        refine G.ldc (pc := 46) cx dX10_noAdvance_46 (v := (-1000002)) wm_ct_X10_37 ?_
        refine G.goto (pc := 48) cx dX10_noAdvance_48 (tgt := 52) (by decide) ?_
        refine G.iret (pc := 52) cx rfl dX10_noAdvance_52 ?_ ?_ rfl
        · refine congrArg (fun x => some (Value.int x)) ?_
          (try clear hin9); (try clear cx); first | rfl | (refine b2_t ?_; grind) | (refine b2_f ?_; grind) | (simp [*, zNoAdv, Int32.not_lt, Int32.not_le]; done) | (simp_all [zNoAdv, Int32.not_lt, Int32.not_le]; done) | grind [zNoAdv, Int32.not_lt, Int32.not_le]
        · rfl
      · skip
        refine G.aload_n (pc := 29) cx dX10_noAdvance_29 rfl 0 rfl ?_
        refine G.iload_n (pc := 30) cx dX10_noAdvance_30 rfl 1 rfl ?_
        refine G.callV0 (pc := 31) (rest := []) (st1 := [.int (b2 (z (10 * k + 2) = 2))]) cx (c_X10_isGone l K sz o z r V k (by omega)) ok_X10_isGone dX10_noAdvance_31 wm_ml_X10_42 rfl mw_m rfl rfl (Nat.le_of_ble_eq_true rfl) ⟨Nat.le_of_ble_eq_true rfl, Nat.le_of_ble_eq_true rfl⟩ rfl ?_
        refine G.if_neB (pc := 34) cx dX10_noAdvance_34 (tgt := 46) (by decide) (fun cq34 => ?_) (fun cq34 => ?_)
        · skip
          refine G.ldc (pc := 46) cx dX10_noAdvance_46 (v := (-1000002)) wm_ct_X10_37 ?_
          refine G.goto (pc := 48) cx dX10_noAdvance_48 (tgt := 52) (by decide) ?_
          refine G.iret (pc := 52) cx rfl dX10_noAdvance_52 ?_ ?_ rfl
          · refine congrArg (fun x => some (Value.int x)) ?_
            (try clear hin9); (try clear cx); first | rfl | (refine b2_t ?_; grind) | (refine b2_f ?_; grind) | (simp [*, zNoAdv, Int32.not_lt, Int32.not_le]; done) | (simp_all [zNoAdv, Int32.not_lt, Int32.not_le]; done) | grind [zNoAdv, Int32.not_lt, Int32.not_le]
          · rfl
        · skip
          refine G.aload_n (pc := 37) cx dX10_noAdvance_37 rfl 0 rfl ?_
          refine G.iload_n (pc := 38) cx dX10_noAdvance_38 rfl 1 rfl ?_
          refine G.callV0 (pc := 39) (rest := []) (st1 := [.int (zBal z k)]) cx (c_X10_balance l K sz o z r V k (by omega)) ok_X10_balance dX10_noAdvance_39 wm_ml_X10_95 rfl mw_m rfl rfl (Nat.le_of_ble_eq_true rfl) ⟨Nat.le_of_ble_eq_true rfl, Nat.le_of_ble_eq_true rfl⟩ rfl ?_
          refine G.iload_n (pc := 42) cx dX10_noAdvance_42 rfl 2 rfl ?_
          refine G.icmp_ge (pc := 43) cx dX10_noAdvance_43 (tgt := 51) (by decide) (fun cq43 => ?_) (fun cq43 => ?_)
          · skip
            refine G.iconst (pc := 51) cx dX10_noAdvance_51 (v := 0) (by decide) ?_
            refine G.iret (pc := 52) cx rfl dX10_noAdvance_52 ?_ ?_ rfl
            · refine congrArg (fun x => some (Value.int x)) ?_
              (try clear hin9); (try clear cx); first | rfl | (refine b2_t ?_; grind) | (refine b2_f ?_; grind) | (simp [*, zNoAdv, Int32.not_lt, Int32.not_le]; done) | (simp_all [zNoAdv, Int32.not_lt, Int32.not_le]; done) | grind [zNoAdv, Int32.not_lt, Int32.not_le]
            · rfl
          · skip
            refine G.ldc (pc := 46) cx dX10_noAdvance_46 (v := (-1000002)) wm_ct_X10_37 ?_
            refine G.goto (pc := 48) cx dX10_noAdvance_48 (tgt := 52) (by decide) ?_
            refine G.iret (pc := 52) cx rfl dX10_noAdvance_52 ?_ ?_ rfl
            · refine congrArg (fun x => some (Value.int x)) ?_
              (try clear hin9); (try clear cx); first | rfl | (refine b2_t ?_; grind) | (refine b2_f ?_; grind) | (simp [*, zNoAdv, Int32.not_lt, Int32.not_le]; done) | (simp_all [zNoAdv, Int32.not_lt, Int32.not_le]; done) | grind [zNoAdv, Int32.not_lt, Int32.not_le]
            · rfl
    · skip
      refine G.ldc (pc := 19) cx dX10_noAdvance_19 (v := (-1000001)) wm_ct_X10_64 ?_
      refine G.iret (pc := 21) cx rfl dX10_noAdvance_21 ?_ ?_ rfl
      · refine congrArg (fun x => some (Value.int x)) ?_
        (try clear hin9); (try clear cx); first | rfl | (refine b2_t ?_; grind) | (refine b2_f ?_; grind) | (simp [*, zNoAdv, Int32.not_lt, Int32.not_le]; done) | (simp_all [zNoAdv, Int32.not_lt, Int32.not_le]; done) | grind [zNoAdv, Int32.not_lt, Int32.not_le]
      · rfl
set_option maxHeartbeats 4000000 in
set_option maxRecDepth 100000 in
theorem c_X10_doAdvance (l : Launch) (K : KT) (sz : Nat) (o : Nat) (z : Zt) (r : Rt) (V : VW) (k : Nat) (x : Int32) (h : k < 16) : Ct l K yX10_doAdvance cX10_doAdvance 3 (some .int) 3 [.ref o, .int (nI k), .int x] (mw K o z r V) sz (some (.int (zDoAdv z k x 195))) (mw K o (zDoAdv z k x) r V) sz 0 0 := by
  refine Ct.ofG (by decide) (Nat.le_of_ble_eq_true rfl) ?_
  intro p9 e9 s9 m9 a9 b9 t9 c9 cx hin9
  refine G.lv0 (lv2 := [(0, .ref o), (1, .int (nI k)), (2, .int x)]) rfl ?_
  refine G.aload_n (pc := 0) cx dX10_doAdvance_0 rfl 0 rfl ?_
  refine G.iload_n (pc := 1) cx dX10_doAdvance_1 rfl 1 rfl ?_
  refine G.bipush (pc := 2) cx dX10_doAdvance_2 (v := 7) (by decide) ?_
  refine G.iload_n (pc := 4) cx dX10_doAdvance_4 rfl 2 rfl ?_
  refine G.callV0 (pc := 5) (rest := []) (st1 := []) cx (c_X10_charge l K sz o z r V k 7 x (by omega) (by omega)) ok_X10_charge dX10_doAdvance_5 wm_ml_X10_104 rfl mw_m rfl rfl (Nat.le_of_ble_eq_true rfl) ⟨Nat.le_of_ble_eq_true rfl, Nat.le_of_ble_eq_true rfl⟩ rfl ?_
  refine G.aload_n (pc := 8) cx dX10_doAdvance_8 rfl 0 rfl ?_
  refine G.iload_n (pc := 9) cx dX10_doAdvance_9 rfl 2 rfl ?_
  refine G.callV0 (pc := 10) (rest := []) (st1 := []) cx (c_X10_spend l K sz o (zCharge z k 7 x) r V x) ok_X10_spend dX10_doAdvance_10 wm_ml_X10_60 rfl mw_m rfl rfl (Nat.le_of_ble_eq_true rfl) ⟨Nat.le_of_ble_eq_true rfl, Nat.le_of_ble_eq_true rfl⟩ rfl ?_
  refine G.aload_n (pc := 13) cx dX10_doAdvance_13 rfl 0 rfl ?_
  refine G.getM (pc := 14) cx dX10_doAdvance_14 0 wm_fl_X10_7 (by decide) rfl ?_
  refine G.sipush (pc := 17) cx dX10_doAdvance_17 (v := 195) (by decide) ?_
  refine G.ialdV (pc := 20) cx dX10_doAdvance_20 mw_z (j := 195) rfl (by omega) (by decide) (cut_at (by omega)) ?_
  refine G.iret (pc := 21) cx rfl dX10_doAdvance_21 ?_ ?_ rfl
  · refine congrArg (fun x => some (Value.int x)) ?_
    (try clear hin9); (try clear cx); rfl
  · refine congrArg (fun x => mw K o x r V) ?_
    (try clear hin9); (try clear cx); rfl
set_option maxHeartbeats 4000000 in
set_option maxRecDepth 100000 in
theorem c_X10_advance (l : Launch) (K : KT) (sz : Nat) (o : Nat) (z : Zt) (r : Rt) (V : VW) (a : Int32) (x : Int32) (N : Nat) (n : Nat) (hN : z 194 = nI N) (h16 : N ≤ 16) (hn : r.2.2.2.2 0 = nI n) (h4 : n ≤ 4) : Ct l K yX10_advance cX10_advance 4 (some .int) 4 [.ref o, .int a, .int x] (mw K o z r V) sz (some (.int (if zNoAdv z a x < 0 then zNoAdv z a x else zDoAdv z (a).toNatClampNeg x 195))) (mw K o (if zNoAdv z a x < 0 then z else zDoAdv z (a).toNatClampNeg x) (if zNoAdv z a x < 0 then r else rRec r n z) V) sz 0 0 := by
  refine Ct.ofG (by decide) (Nat.le_of_ble_eq_true rfl) ?_
  intro p9 e9 s9 m9 a9 b9 t9 c9 cx hin9
  refine G.lv0 (lv2 := [(0, .ref o), (1, .int a), (2, .int x)]) rfl ?_
  refine G.aload_n (pc := 0) cx dX10_advance_0 rfl 0 rfl ?_
  refine G.iload_n (pc := 1) cx dX10_advance_1 rfl 1 rfl ?_
  refine G.iload_n (pc := 2) cx dX10_advance_2 rfl 2 rfl ?_
  refine G.callV0 (pc := 3) (rest := []) (st1 := [.int (zNoAdv z a x)]) cx (c_X10_noAdvance l K sz o z r V a x N (by assumption) (by omega)) ok_X10_noAdvance dX10_advance_3 wm_ml_X10_113 rfl mw_m rfl rfl (Nat.le_of_ble_eq_true rfl) ⟨Nat.le_of_ble_eq_true rfl, Nat.le_of_ble_eq_true rfl⟩ rfl ?_
  refine G.istore_n (pc := 6) cx dX10_advance_6 rfl (by decide) rfl ?_
  refine G.iload_n (pc := 7) cx dX10_advance_7 rfl 0 rfl ?_
  refine G.if_ge (pc := 8) cx dX10_advance_8 (tgt := 13) (by decide) (fun cq8 => ?_) (fun cq8 => ?_)
  · skip
    obtain ⟨k, hk, rfl⟩ := sail_of hN h16 (zNoAdv_ok cq8)
    have tk : (nI k).toNatClampNeg = k := nI_clamp (by omega)
    refine G.aload_n (pc := 13) cx dX10_advance_13 rfl 1 rfl ?_
    refine G.aload_n (pc := 14) cx dX10_advance_14 rfl 1 rfl ?_
    refine G.getM (pc := 15) cx dX10_advance_15 0 wm_fl_X10_7 (by decide) rfl ?_
    refine G.callV0 (pc := 18) (rest := []) (st1 := []) cx (c_X10_record l K sz o z r V n (by first | assumption | simp [*]) (by omega)) ok_X10_record dX10_advance_18 wm_ml_X10_76 rfl mw_m rfl rfl (Nat.le_of_ble_eq_true rfl) ⟨Nat.le_of_ble_eq_true rfl, Nat.le_of_ble_eq_true rfl⟩ rfl ?_
    refine G.aload_n (pc := 21) cx dX10_advance_21 rfl 1 rfl ?_
    refine G.iload_n (pc := 22) cx dX10_advance_22 rfl 2 rfl ?_
    refine G.iload_n (pc := 23) cx dX10_advance_23 rfl 3 rfl ?_
    refine G.callV0 (pc := 24) (rest := []) (st1 := [.int (zDoAdv z k x 195)]) cx (c_X10_doAdvance l K sz o z (rRec r n z) V k x (by omega)) ok_X10_doAdvance dX10_advance_24 wm_ml_X10_116 rfl mw_m rfl rfl (Nat.le_of_ble_eq_true rfl) ⟨Nat.le_of_ble_eq_true rfl, Nat.le_of_ble_eq_true rfl⟩ rfl ?_
    refine G.iret (pc := 27) cx rfl dX10_advance_27 ?_ ?_ rfl
    · refine congrArg (fun x => some (Value.int x)) ?_
      (try clear hin9); (try clear cx); first | (rw [if_neg (Int32.not_lt.mpr cq8), tk]; done) | (rw [if_neg (Int32.not_lt.mpr cq8)]; done)
    · show _ = _
      (try clear hin9); (try clear cx); rw [if_neg (Int32.not_lt.mpr cq8), if_neg (Int32.not_lt.mpr cq8), tk]
  · skip
    refine G.iload_n (pc := 11) cx dX10_advance_11 rfl 0 rfl ?_
    refine G.iret (pc := 12) cx rfl dX10_advance_12 ?_ ?_ rfl
    · refine congrArg (fun x => some (Value.int x)) ?_
      (try clear hin9); (try clear cx); first | (rw [if_pos (Int32.not_le.mp cq8)]; done) | (rw [if_neg (Int32.not_lt.mpr cq8)]; done) | (rw [if_neg (Int32.not_lt.mpr cq8)]; rfl)
    · show _ = _
      (try clear hin9); (try clear cx); first | (rw [if_pos (Int32.not_le.mp cq8), if_pos (Int32.not_le.mp cq8)]; done) | (rw [if_neg (Int32.not_lt.mpr cq8), if_neg (Int32.not_lt.mpr cq8)]; done) | (rw [if_neg (Int32.not_lt.mpr cq8), if_neg (Int32.not_lt.mpr cq8)]; rfl)
set_option maxHeartbeats 4000000 in
set_option maxRecDepth 100000 in
theorem c_X10_noFine (l : Launch) (K : KT) (sz : Nat) (o : Nat) (z : Zt) (r : Rt) (V : VW) (a : Int32) (x : Int32) (N : Nat) (hN : z 194 = nI N) (h16 : N ≤ 16) : Ct l K yX10_noFine cX10_noFine 3 (some .int) 3 [.ref o, .int a, .int x] (mw K o z r V) sz (some (.int (zNoFine z a x))) (mw K o z r V) sz 0 0 := by
  refine Ct.ofG (by decide) (Nat.le_of_ble_eq_true rfl) ?_
  intro p9 e9 s9 m9 a9 b9 t9 c9 cx hin9
  refine G.lv0 (lv2 := [(0, .ref o), (1, .int a), (2, .int x)]) rfl ?_
  refine G.aload_n (pc := 0) cx dX10_noFine_0 rfl 0 rfl ?_
  refine G.iload_n (pc := 1) cx dX10_noFine_1 rfl 1 rfl ?_
  refine G.callV0 (pc := 2) (rest := []) (st1 := [.int (b2 (0 ≤ a ∧ a ≤ z 194 - 1))]) cx (c_X10_isSailor l K sz o z r V a) ok_X10_isSailor dX10_noFine_2 wm_ml_X10_98 rfl mw_m rfl rfl (Nat.le_of_ble_eq_true rfl) ⟨Nat.le_of_ble_eq_true rfl, Nat.le_of_ble_eq_true rfl⟩ rfl ?_
  refine G.if_eqB (pc := 5) cx dX10_noFine_5 (tgt := 19) (by decide) (fun cq5 => ?_) (fun cq5 => ?_)
  · skip
    refine G.ldc (pc := 19) cx dX10_noFine_19 (v := (-1000001)) wm_ct_X10_64 ?_
    refine G.iret (pc := 21) cx rfl dX10_noFine_21 ?_ ?_ rfl
    · refine congrArg (fun x => some (Value.int x)) ?_
      (try clear hin9); (try clear cx); first | rfl | (refine b2_t ?_; grind) | (refine b2_f ?_; grind) | (simp [*, zNoFine, Int32.not_lt, Int32.not_le]; done) | (simp_all [zNoFine, Int32.not_lt, Int32.not_le]; done) | grind [zNoFine, Int32.not_lt, Int32.not_le]
    · rfl
  · skip
    obtain ⟨k, hk, rfl⟩ := sail_of hN h16 cq5
    have tk : (nI k).toNatClampNeg = k := nI_clamp (by omega)
    refine G.iload_n (pc := 8) cx dX10_noFine_8 rfl 2 rfl ?_
    refine G.iconst (pc := 9) cx dX10_noFine_9 (v := 1) (by decide) ?_
    refine G.sipush (pc := 10) cx dX10_noFine_10 (v := 999) (by decide) ?_
    refine G.callS0 (pc := 13) (rest := []) (st1 := [.int (b2 (1 ≤ x ∧ x ≤ 999))]) cx (c_X10_in l K sz x 1 999 (mw K o z r V)) ok_X10_in dX10_noFine_13 wm_ml_X10_25 rfl rfl (Nat.le_of_ble_eq_true rfl) ⟨Nat.le_of_ble_eq_true rfl, Nat.le_of_ble_eq_true rfl⟩ rfl ?_
    refine G.if_neB (pc := 16) cx dX10_noFine_16 (tgt := 22) (by decide) (fun cq16 => ?_) (fun cq16 => ?_)
    · skip
      refine G.aload_n (pc := 22) cx dX10_noFine_22 rfl 0 rfl ?_
      refine G.iload_n (pc := 23) cx dX10_noFine_23 rfl 1 rfl ?_
      refine G.callV0 (pc := 24) (rest := []) (st1 := [.int (b2 (z (10 * k + 2) = 2))]) cx (c_X10_isGone l K sz o z r V k (by omega)) ok_X10_isGone dX10_noFine_24 wm_ml_X10_42 rfl mw_m rfl rfl (Nat.le_of_ble_eq_true rfl) ⟨Nat.le_of_ble_eq_true rfl, Nat.le_of_ble_eq_true rfl⟩ rfl ?_
      refine G.if_neB (pc := 27) cx dX10_noFine_27 (tgt := 43) (by decide) (fun cq27 => ?_) (fun cq27 => ?_)
      · skip
        refine G.ldc (pc := 43) cx dX10_noFine_43 (v := (-1000002)) wm_ct_X10_37 ?_
        refine G.goto (pc := 45) cx dX10_noFine_45 (tgt := 49) (by decide) ?_
        refine G.iret (pc := 49) cx rfl dX10_noFine_49 ?_ ?_ rfl
        · refine congrArg (fun x => some (Value.int x)) ?_
          (try clear hin9); (try clear cx); first | rfl | (refine b2_t ?_; grind) | (refine b2_f ?_; grind) | (simp [*, zNoFine, Int32.not_lt, Int32.not_le]; done) | (simp_all [zNoFine, Int32.not_lt, Int32.not_le]; done) | grind [zNoFine, Int32.not_lt, Int32.not_le]
        · rfl
      · skip
        refine G.aload_n (pc := 30) cx dX10_noFine_30 rfl 0 rfl ?_
        refine G.iload_n (pc := 31) cx dX10_noFine_31 rfl 1 rfl ?_
        refine G.callV0 (pc := 32) (rest := []) (st1 := [.int (zBal z k)]) cx (c_X10_balance l K sz o z r V k (by omega)) ok_X10_balance dX10_noFine_32 wm_ml_X10_95 rfl mw_m rfl rfl (Nat.le_of_ble_eq_true rfl) ⟨Nat.le_of_ble_eq_true rfl, Nat.le_of_ble_eq_true rfl⟩ rfl ?_
        refine G.iload_n (pc := 35) cx dX10_noFine_35 rfl 2 rfl ?_
        refine G.isub (pc := 36) cx dX10_noFine_36 ?_
        refine G.sipush (pc := 37) cx dX10_noFine_37 (v := (-4000)) (by decide) ?_
        refine G.icmp_ge (pc := 40) cx dX10_noFine_40 (tgt := 48) (by decide) (fun cq40 => ?_) (fun cq40 => ?_)
        · skip
          refine G.iconst (pc := 48) cx dX10_noFine_48 (v := 0) (by decide) ?_
          refine G.iret (pc := 49) cx rfl dX10_noFine_49 ?_ ?_ rfl
          · refine congrArg (fun x => some (Value.int x)) ?_
            (try clear hin9); (try clear cx); first | rfl | (refine b2_t ?_; grind) | (refine b2_f ?_; grind) | (simp [*, zNoFine, Int32.not_lt, Int32.not_le]; done) | (simp_all [zNoFine, Int32.not_lt, Int32.not_le]; done) | grind [zNoFine, Int32.not_lt, Int32.not_le]
          · rfl
        · skip
          refine G.ldc (pc := 43) cx dX10_noFine_43 (v := (-1000002)) wm_ct_X10_37 ?_
          refine G.goto (pc := 45) cx dX10_noFine_45 (tgt := 49) (by decide) ?_
          refine G.iret (pc := 49) cx rfl dX10_noFine_49 ?_ ?_ rfl
          · refine congrArg (fun x => some (Value.int x)) ?_
            (try clear hin9); (try clear cx); first | rfl | (refine b2_t ?_; grind) | (refine b2_f ?_; grind) | (simp [*, zNoFine, Int32.not_lt, Int32.not_le]; done) | (simp_all [zNoFine, Int32.not_lt, Int32.not_le]; done) | grind [zNoFine, Int32.not_lt, Int32.not_le]
          · rfl
    · skip
      refine G.ldc (pc := 19) cx dX10_noFine_19 (v := (-1000001)) wm_ct_X10_64 ?_
      refine G.iret (pc := 21) cx rfl dX10_noFine_21 ?_ ?_ rfl
      · refine congrArg (fun x => some (Value.int x)) ?_
        (try clear hin9); (try clear cx); first | rfl | (refine b2_t ?_; grind) | (refine b2_f ?_; grind) | (simp [*, zNoFine, Int32.not_lt, Int32.not_le]; done) | (simp_all [zNoFine, Int32.not_lt, Int32.not_le]; done) | grind [zNoFine, Int32.not_lt, Int32.not_le]
      · rfl
set_option maxHeartbeats 4000000 in
set_option maxRecDepth 100000 in
theorem c_X10_doFine (l : Launch) (K : KT) (sz : Nat) (o : Nat) (z : Zt) (r : Rt) (V : VW) (k : Nat) (x : Int32) (h : k < 16) : Ct l K yX10_doFine cX10_doFine 3 (some .int) 3 [.ref o, .int (nI k), .int x] (mw K o z r V) sz (some (.int (5000 + zBal (zDoFine z k x) k))) (mw K o (zDoFine z k x) r V) sz 0 0 := by
  refine Ct.ofG (by decide) (Nat.le_of_ble_eq_true rfl) ?_
  intro p9 e9 s9 m9 a9 b9 t9 c9 cx hin9
  refine G.lv0 (lv2 := [(0, .ref o), (1, .int (nI k)), (2, .int x)]) rfl ?_
  refine G.aload_n (pc := 0) cx dX10_doFine_0 rfl 0 rfl ?_
  refine G.iload_n (pc := 1) cx dX10_doFine_1 rfl 1 rfl ?_
  refine G.bipush (pc := 2) cx dX10_doFine_2 (v := 6) (by decide) ?_
  refine G.iload_n (pc := 4) cx dX10_doFine_4 rfl 2 rfl ?_
  refine G.callV0 (pc := 5) (rest := []) (st1 := []) cx (c_X10_charge l K sz o z r V k 6 x (by omega) (by omega)) ok_X10_charge dX10_doFine_5 wm_ml_X10_104 rfl mw_m rfl rfl (Nat.le_of_ble_eq_true rfl) ⟨Nat.le_of_ble_eq_true rfl, Nat.le_of_ble_eq_true rfl⟩ rfl ?_
  refine G.sipush (pc := 8) cx dX10_doFine_8 (v := 5000) (by decide) ?_
  refine G.aload_n (pc := 11) cx dX10_doFine_11 rfl 0 rfl ?_
  refine G.iload_n (pc := 12) cx dX10_doFine_12 rfl 1 rfl ?_
  refine G.callV0 (pc := 13) (rest := [.int 5000]) (st1 := [.int (zBal (zCharge z k 6 x) k), .int 5000]) cx (c_X10_balance l K sz o (zCharge z k 6 x) r V k (by omega)) ok_X10_balance dX10_doFine_13 wm_ml_X10_95 rfl mw_m rfl rfl (Nat.le_of_ble_eq_true rfl) ⟨Nat.le_of_ble_eq_true rfl, Nat.le_of_ble_eq_true rfl⟩ rfl ?_
  refine G.iadd (pc := 16) cx dX10_doFine_16 ?_
  refine G.iret (pc := 17) cx rfl dX10_doFine_17 ?_ ?_ rfl
  · refine congrArg (fun x => some (Value.int x)) ?_
    (try clear hin9); (try clear cx); rfl
  · refine congrArg (fun x => mw K o x r V) ?_
    (try clear hin9); (try clear cx); rfl
set_option maxHeartbeats 4000000 in
set_option maxRecDepth 100000 in
theorem c_X10_fine (l : Launch) (K : KT) (sz : Nat) (o : Nat) (z : Zt) (r : Rt) (V : VW) (a : Int32) (x : Int32) (N : Nat) (n : Nat) (hN : z 194 = nI N) (h16 : N ≤ 16) (hn : r.2.2.2.2 0 = nI n) (h4 : n ≤ 4) : Ct l K yX10_fine cX10_fine 4 (some .int) 4 [.ref o, .int a, .int x] (mw K o z r V) sz (some (.int (if zNoFine z a x < 0 then zNoFine z a x else 5000 + zBal (zDoFine z (a).toNatClampNeg x) (a).toNatClampNeg))) (mw K o (if zNoFine z a x < 0 then z else zDoFine z (a).toNatClampNeg x) (if zNoFine z a x < 0 then r else rRec r n z) V) sz 0 0 := by
  refine Ct.ofG (by decide) (Nat.le_of_ble_eq_true rfl) ?_
  intro p9 e9 s9 m9 a9 b9 t9 c9 cx hin9
  refine G.lv0 (lv2 := [(0, .ref o), (1, .int a), (2, .int x)]) rfl ?_
  refine G.aload_n (pc := 0) cx dX10_fine_0 rfl 0 rfl ?_
  refine G.iload_n (pc := 1) cx dX10_fine_1 rfl 1 rfl ?_
  refine G.iload_n (pc := 2) cx dX10_fine_2 rfl 2 rfl ?_
  refine G.callV0 (pc := 3) (rest := []) (st1 := [.int (zNoFine z a x)]) cx (c_X10_noFine l K sz o z r V a x N (by assumption) (by omega)) ok_X10_noFine dX10_fine_3 wm_ml_X10_119 rfl mw_m rfl rfl (Nat.le_of_ble_eq_true rfl) ⟨Nat.le_of_ble_eq_true rfl, Nat.le_of_ble_eq_true rfl⟩ rfl ?_
  refine G.istore_n (pc := 6) cx dX10_fine_6 rfl (by decide) rfl ?_
  refine G.iload_n (pc := 7) cx dX10_fine_7 rfl 0 rfl ?_
  refine G.if_ge (pc := 8) cx dX10_fine_8 (tgt := 13) (by decide) (fun cq8 => ?_) (fun cq8 => ?_)
  · skip
    obtain ⟨k, hk, rfl⟩ := sail_of hN h16 (zNoFine_ok cq8)
    have tk : (nI k).toNatClampNeg = k := nI_clamp (by omega)
    refine G.aload_n (pc := 13) cx dX10_fine_13 rfl 1 rfl ?_
    refine G.aload_n (pc := 14) cx dX10_fine_14 rfl 1 rfl ?_
    refine G.getM (pc := 15) cx dX10_fine_15 0 wm_fl_X10_7 (by decide) rfl ?_
    refine G.callV0 (pc := 18) (rest := []) (st1 := []) cx (c_X10_record l K sz o z r V n (by first | assumption | simp [*]) (by omega)) ok_X10_record dX10_fine_18 wm_ml_X10_76 rfl mw_m rfl rfl (Nat.le_of_ble_eq_true rfl) ⟨Nat.le_of_ble_eq_true rfl, Nat.le_of_ble_eq_true rfl⟩ rfl ?_
    refine G.aload_n (pc := 21) cx dX10_fine_21 rfl 1 rfl ?_
    refine G.iload_n (pc := 22) cx dX10_fine_22 rfl 2 rfl ?_
    refine G.iload_n (pc := 23) cx dX10_fine_23 rfl 3 rfl ?_
    refine G.callV0 (pc := 24) (rest := []) (st1 := [.int (5000 + zBal (zDoFine z k x) k)]) cx (c_X10_doFine l K sz o z (rRec r n z) V k x (by omega)) ok_X10_doFine dX10_fine_24 wm_ml_X10_122 rfl mw_m rfl rfl (Nat.le_of_ble_eq_true rfl) ⟨Nat.le_of_ble_eq_true rfl, Nat.le_of_ble_eq_true rfl⟩ rfl ?_
    refine G.iret (pc := 27) cx rfl dX10_fine_27 ?_ ?_ rfl
    · refine congrArg (fun x => some (Value.int x)) ?_
      (try clear hin9); (try clear cx); first | (rw [if_neg (Int32.not_lt.mpr cq8), tk]; done) | (rw [if_neg (Int32.not_lt.mpr cq8)]; done)
    · show _ = _
      (try clear hin9); (try clear cx); rw [if_neg (Int32.not_lt.mpr cq8), if_neg (Int32.not_lt.mpr cq8), tk]
  · skip
    refine G.iload_n (pc := 11) cx dX10_fine_11 rfl 0 rfl ?_
    refine G.iret (pc := 12) cx rfl dX10_fine_12 ?_ ?_ rfl
    · refine congrArg (fun x => some (Value.int x)) ?_
      (try clear hin9); (try clear cx); first | (rw [if_pos (Int32.not_le.mp cq8)]; done) | (rw [if_neg (Int32.not_lt.mpr cq8)]; done) | (rw [if_neg (Int32.not_lt.mpr cq8)]; rfl)
    · show _ = _
      (try clear hin9); (try clear cx); first | (rw [if_pos (Int32.not_le.mp cq8), if_pos (Int32.not_le.mp cq8)]; done) | (rw [if_neg (Int32.not_lt.mpr cq8), if_neg (Int32.not_lt.mpr cq8)]; done) | (rw [if_neg (Int32.not_lt.mpr cq8), if_neg (Int32.not_lt.mpr cq8)]; rfl)
set_option maxHeartbeats 4000000 in
set_option maxRecDepth 100000 in
theorem c_X10_ofWatch (l : Launch) (K : KT) (sz : Nat) (o : Nat) (z : Zt) (r : Rt) (V : VW) (w : Int32) (b : Nat) (hb : b ≤ 16) : Ct l K yX10_ofWatch cX10_ofWatch 5 (some .int) 2 [.ref o, .int w, .int (nI b)] (mw K o z r V) sz (some (.int (nI (zOfW z w b)))) (mw K o z r V) sz 0 0 := by
  refine Ct.ofG (by decide) (Nat.le_of_ble_eq_true rfl) ?_
  intro p9 e9 s9 m9 a9 b9 t9 c9 cx hin9
  refine G.lv0 (lv2 := [(0, .ref o), (1, .int w), (2, .int (nI b))]) rfl ?_
  refine G.iconst (pc := 0) cx dX10_ofWatch_0 (v := 0) (by decide) ?_
  refine G.istore_n (pc := 1) cx dX10_ofWatch_1 rfl (by decide) rfl ?_
  refine G.iconst (pc := 2) cx dX10_ofWatch_2 (v := 0) (by decide) ?_
  refine G.istore (pc := 3) cx dX10_ofWatch_3 (by decide) rfl ?_
  have L5_1 : ∀ (f k5 : Nat), b - k5 < f → k5 ≤ b → G K p9 l e9 (rmL 2 0 0) s9 m9 a9 b9 t9 c9 (MQ b9 (QCt K (some (.int (nI (zOfW z w b)))) (mw K o z r V) sz) a9 s9 0 0 (kA K)) 5 (mw K o z r V) sz 0 0 5 [(0, .ref o), (1, .int w), (2, .int (nI b)), (3, .int (nI (zOfW z w k5))), (4, .int (nI k5))] [] := by
    intro f
    induction f with
    | zero => intro k5 h9; omega
    | succ f ih5 =>
      intro k5 h95 h85
      refine G.iload (pc := 5) cx dX10_ofWatch_5 4 rfl ?_
      refine G.iload_n (pc := 7) cx dX10_ofWatch_7 rfl 2 rfl ?_
      refine G.icmp_geN (pc := 8) cx k5 b (by omega) (by omega) dX10_ofWatch_8 (tgt := 45) (by decide) (fun cq8 => ?_) (fun cq8 => ?_)
      · skip
        have ex5 : k5 = b := by omega
        try rw [ex5]
        refine G.iload_n (pc := 45) cx dX10_ofWatch_45 rfl 3 rfl ?_
        refine G.iret (pc := 46) cx rfl dX10_ofWatch_46 ?_ ?_ rfl
        · rfl
        · rfl
      · skip
        refine G.iload_n (pc := 11) cx dX10_ofWatch_11 rfl 3 rfl ?_
        refine G.aload_n (pc := 12) cx dX10_ofWatch_12 rfl 0 rfl ?_
        refine G.iload (pc := 13) cx dX10_ofWatch_13 4 rfl ?_
        refine G.iconst (pc := 15) cx dX10_ofWatch_15 (v := 1) (by decide) ?_
        refine G.callV0 (pc := 16) (rest := [.int (nI (zOfW z w k5))]) (st1 := [.int (z (10 * k5 + 1)), .int (nI (zOfW z w k5))]) cx (c_X10_of l K sz o z r V k5 1 (by omega)) ok_X10_of dX10_ofWatch_16 wm_ml_X10_29 rfl mw_m rfl rfl (Nat.le_of_ble_eq_true rfl) ⟨Nat.le_of_ble_eq_true rfl, Nat.le_of_ble_eq_true rfl⟩ rfl ?_
        refine G.iload_n (pc := 19) cx dX10_ofWatch_19 rfl 1 rfl ?_
        refine G.icmp_ne (pc := 20) cx dX10_ofWatch_20 (tgt := 36) (by decide) (fun cq20 => ?_) (fun cq20 => ?_)
        · skip
          refine G.iconst (pc := 36) cx dX10_ofWatch_36 (v := 0) (by decide) ?_
          refine G.iaddN (pc := 37) cx dX10_ofWatch_37 (zOfW z w k5) 0 ?_
          refine G.istore_n (pc := 38) cx dX10_ofWatch_38 rfl (by decide) rfl ?_
          refine G.iinc (pc := 39) cx dX10_ofWatch_39 (v := nI (k5 + 1)) (k := 4) rfl (nI_add k5 1) (by decide) rfl ?_
          refine G.goto (pc := 42) cx dX10_ofWatch_42 (tgt := 5) (by decide) ?_
          refine G.castL (lv' := [(0, .ref o), (1, .int w), (2, .int (nI b)), (3, .int (nI ((zOfW z w k5) + 0))), (4, .int (nI (k5 + 1)))]) [2, 3, 4, 1, 0] rfl ?_
          refine G.lv0 (lv2 := [(0, .ref o), (1, .int w), (2, .int (nI b)), (3, .int (nI (zOfW z w (k5 + 1)))), (4, .int (nI (k5 + 1)))]) (congrArg (fun q9 => ([(0, .ref o), (1, .int w), (2, .int (nI b)), (3, .int q9), (4, .int (nI (k5 + 1)))] : List (Nat × Value))) (show (nI ((zOfW z w k5) + 0) : Int32) = nI (zOfW z w (k5 + 1)) from by first | (simp [zOfW, *]; done) | (simp [zOfW, *, nI_1]; done))) ?_
          exact ih5 (k5 + 1) (by omega) (by omega)
        · skip
          refine G.aload_n (pc := 23) cx dX10_ofWatch_23 rfl 0 rfl ?_
          refine G.iload (pc := 24) cx dX10_ofWatch_24 4 rfl ?_
          refine G.callV0 (pc := 26) (rest := [.int (nI (zOfW z w k5))]) (st1 := [.int (b2 (z (10 * k5 + 2) = 2)), .int (nI (zOfW z w k5))]) cx (c_X10_isGone l K sz o z r V k5 (by omega)) ok_X10_isGone dX10_ofWatch_26 wm_ml_X10_42 rfl mw_m rfl rfl (Nat.le_of_ble_eq_true rfl) ⟨Nat.le_of_ble_eq_true rfl, Nat.le_of_ble_eq_true rfl⟩ rfl ?_
          refine G.if_neB (pc := 29) cx dX10_ofWatch_29 (tgt := 36) (by decide) (fun cq29 => ?_) (fun cq29 => ?_)
          · skip
            refine G.iconst (pc := 36) cx dX10_ofWatch_36 (v := 0) (by decide) ?_
            refine G.iaddN (pc := 37) cx dX10_ofWatch_37 (zOfW z w k5) 0 ?_
            refine G.istore_n (pc := 38) cx dX10_ofWatch_38 rfl (by decide) rfl ?_
            refine G.iinc (pc := 39) cx dX10_ofWatch_39 (v := nI (k5 + 1)) (k := 4) rfl (nI_add k5 1) (by decide) rfl ?_
            refine G.goto (pc := 42) cx dX10_ofWatch_42 (tgt := 5) (by decide) ?_
            refine G.castL (lv' := [(0, .ref o), (1, .int w), (2, .int (nI b)), (3, .int (nI ((zOfW z w k5) + 0))), (4, .int (nI (k5 + 1)))]) [2, 3, 4, 1, 0] rfl ?_
            refine G.lv0 (lv2 := [(0, .ref o), (1, .int w), (2, .int (nI b)), (3, .int (nI (zOfW z w (k5 + 1)))), (4, .int (nI (k5 + 1)))]) (congrArg (fun q9 => ([(0, .ref o), (1, .int w), (2, .int (nI b)), (3, .int q9), (4, .int (nI (k5 + 1)))] : List (Nat × Value))) (show (nI ((zOfW z w k5) + 0) : Int32) = nI (zOfW z w (k5 + 1)) from by first | (simp [zOfW, *]; done) | (simp [zOfW, *, nI_1]; done))) ?_
            exact ih5 (k5 + 1) (by omega) (by omega)
          · skip
            refine G.iconst (pc := 32) cx dX10_ofWatch_32 (v := 1) (by decide) ?_
            refine G.goto (pc := 33) cx dX10_ofWatch_33 (tgt := 37) (by decide) ?_
            refine G.iaddN (pc := 37) cx dX10_ofWatch_37 (zOfW z w k5) 1 ?_
            refine G.istore_n (pc := 38) cx dX10_ofWatch_38 rfl (by decide) rfl ?_
            refine G.iinc (pc := 39) cx dX10_ofWatch_39 (v := nI (k5 + 1)) (k := 4) rfl (nI_add k5 1) (by decide) rfl ?_
            refine G.goto (pc := 42) cx dX10_ofWatch_42 (tgt := 5) (by decide) ?_
            refine G.castL (lv' := [(0, .ref o), (1, .int w), (2, .int (nI b)), (3, .int (nI ((zOfW z w k5) + 1))), (4, .int (nI (k5 + 1)))]) [2, 3, 4, 1, 0] rfl ?_
            refine G.lv0 (lv2 := [(0, .ref o), (1, .int w), (2, .int (nI b)), (3, .int (nI (zOfW z w (k5 + 1)))), (4, .int (nI (k5 + 1)))]) (congrArg (fun q9 => ([(0, .ref o), (1, .int w), (2, .int (nI b)), (3, .int q9), (4, .int (nI (k5 + 1)))] : List (Nat × Value))) (show (nI ((zOfW z w k5) + 1) : Int32) = nI (zOfW z w (k5 + 1)) from by first | (simp [zOfW, *]; done) | (simp [zOfW, *, nI_1]; done))) ?_
            exact ih5 (k5 + 1) (by omega) (by omega)
  refine G.castL (lv' := [(0, .ref o), (1, .int w), (2, .int (nI b)), (3, .int 0), (4, .int 0)]) [2, 3, 4, 1, 0] rfl ?_
  refine G.lv0 (lv2 := [(0, .ref o), (1, .int w), (2, .int (nI b)), (3, .int (nI (zOfW z w 0))), (4, .int 0)]) (congrArg (fun q9 => ([(0, .ref o), (1, .int w), (2, .int (nI b)), (3, .int q9), (4, .int 0)] : List (Nat × Value))) (show (0 : Int32) = nI (zOfW z w 0) from by rfl)) ?_
  refine G.lv0 (lv2 := [(0, .ref o), (1, .int w), (2, .int (nI b)), (3, .int (nI (zOfW z w 0))), (4, .int (nI 0))]) (congrArg (fun q9 => ([(0, .ref o), (1, .int w), (2, .int (nI b)), (3, .int (nI (zOfW z w 0))), (4, .int q9)] : List (Nat × Value))) (show (0 : Int32) = nI 0 from by rfl)) ?_
  exact L5_1 (b + 1) 0 (by omega) (by omega)
set_option maxHeartbeats 4000000 in
set_option maxRecDepth 100000 in
theorem c_X10_partOf (l : Launch) (K : KT) (sz : Nat) (o : Nat) (z : Zt) (r : Rt) (V : VW) (k : Nat) (w : Int32) (x : Int32) (N : Nat) (hN : z 194 = nI N) (h16 : N ≤ 16) (hk : k ≤ N) (h0 : 0 < zOfW z w N) : Ct l K yX10_partOf cX10_partOf 5 (some .int) 3 [.ref o, .int (nI k), .int w, .int x] (mw K o z r V) sz (some (.int (zPart z N k w x))) (mw K o z r V) sz 0 0 := by
  refine Ct.ofG (by decide) (Nat.le_of_ble_eq_true rfl) ?_
  intro p9 e9 s9 m9 a9 b9 t9 c9 cx hin9
  refine G.lv0 (lv2 := [(0, .ref o), (1, .int (nI k)), (2, .int w), (3, .int x)]) rfl ?_
  have hne : ¬ nI (zOfW z w N) = 0 := nI_ne0 h0 (by have := zOfW_le z w N; omega)
  refine G.aload_n (pc := 0) cx dX10_partOf_0 rfl 0 rfl ?_
  refine G.iload_n (pc := 1) cx dX10_partOf_1 rfl 2 rfl ?_
  refine G.aload_n (pc := 2) cx dX10_partOf_2 rfl 0 rfl ?_
  refine G.getM (pc := 3) cx dX10_partOf_3 0 wm_fl_X10_7 (by decide) rfl ?_
  refine G.sipush (pc := 6) cx dX10_partOf_6 (v := 194) (by decide) ?_
  refine G.ialdV (pc := 9) cx dX10_partOf_9 mw_z (j := 194) rfl (by omega) (by decide) ((cut_at (by omega)).trans (hN)) ?_
  refine G.callV0 (pc := 10) (rest := []) (st1 := [.int (nI (zOfW z w N))]) cx (c_X10_ofWatch l K sz o z r V w N (by omega)) ok_X10_ofWatch dX10_partOf_10 wm_ml_X10_125 rfl mw_m rfl rfl (Nat.le_of_ble_eq_true rfl) ⟨Nat.le_of_ble_eq_true rfl, Nat.le_of_ble_eq_true rfl⟩ rfl ?_
  refine G.istore (pc := 13) cx dX10_partOf_13 (by decide) rfl ?_
  refine G.iload_n (pc := 15) cx dX10_partOf_15 rfl 4 rfl ?_
  refine G.iload (pc := 16) cx dX10_partOf_16 0 rfl ?_
  refine G.idiv (pc := 18) cx dX10_partOf_18 hne ?_
  refine G.aload_n (pc := 19) cx dX10_partOf_19 rfl 1 rfl ?_
  refine G.iload_n (pc := 20) cx dX10_partOf_20 rfl 3 rfl ?_
  refine G.iload_n (pc := 21) cx dX10_partOf_21 rfl 2 rfl ?_
  refine G.callV0 (pc := 22) (rest := [.int (x / (nI (zOfW z w N)))]) (st1 := [.int (nI (zOfW z w k)), .int (x / (nI (zOfW z w N)))]) cx (c_X10_ofWatch l K sz o z r V w k (by omega)) ok_X10_ofWatch dX10_partOf_22 wm_ml_X10_125 rfl mw_m rfl rfl (Nat.le_of_ble_eq_true rfl) ⟨Nat.le_of_ble_eq_true rfl, Nat.le_of_ble_eq_true rfl⟩ rfl ?_
  refine G.iload_n (pc := 25) cx dX10_partOf_25 rfl 4 rfl ?_
  refine G.iload (pc := 26) cx dX10_partOf_26 0 rfl ?_
  refine G.irem (pc := 28) cx dX10_partOf_28 hne ?_
  refine G.icmp_ge (pc := 29) cx dX10_partOf_29 (tgt := 36) (by decide) (fun cq29 => ?_) (fun cq29 => ?_)
  · skip
    refine G.iconst (pc := 36) cx dX10_partOf_36 (v := 0) (by decide) ?_
    refine G.iadd (pc := 37) cx dX10_partOf_37 ?_
    refine G.iret (pc := 38) cx rfl dX10_partOf_38 ?_ ?_ rfl
    · refine congrArg (fun x => some (Value.int x)) ?_
      (try clear hin9); (try clear cx); first | rfl | (refine b2_t ?_; grind) | (refine b2_f ?_; grind) | (simp [*, zPart, Int32.not_lt, Int32.not_le]; done) | (simp_all [zPart, Int32.not_lt, Int32.not_le]; done) | grind [zPart, Int32.not_lt, Int32.not_le]
    · rfl
  · skip
    refine G.iconst (pc := 32) cx dX10_partOf_32 (v := 1) (by decide) ?_
    refine G.goto (pc := 33) cx dX10_partOf_33 (tgt := 37) (by decide) ?_
    refine G.iadd (pc := 37) cx dX10_partOf_37 ?_
    refine G.iret (pc := 38) cx rfl dX10_partOf_38 ?_ ?_ rfl
    · refine congrArg (fun x => some (Value.int x)) ?_
      (try clear hin9); (try clear cx); first | rfl | (refine b2_t ?_; grind) | (refine b2_f ?_; grind) | (simp [*, zPart, Int32.not_lt, Int32.not_le]; done) | (simp_all [zPart, Int32.not_lt, Int32.not_le]; done) | grind [zPart, Int32.not_lt, Int32.not_le]
    · rfl
set_option maxHeartbeats 4000000 in
set_option maxRecDepth 100000 in
theorem c_X10_isFined (l : Launch) (K : KT) (sz : Nat) (o : Nat) (z : Zt) (r : Rt) (V : VW) (k : Nat) (w : Int32) (h : k < 16) : Ct l K yX10_isFined cX10_isFined 3 (some .boolean) 2 [.ref o, .int (nI k), .int w] (mw K o z r V) sz (some (.int (b2 (z (10 * k + 1) = w ∧ ¬ z (10 * k + 2) = 2)))) (mw K o z r V) sz 0 0 := by
  refine Ct.ofG (by decide) (Nat.le_of_ble_eq_true rfl) ?_
  intro p9 e9 s9 m9 a9 b9 t9 c9 cx hin9
  refine G.lv0 (lv2 := [(0, .ref o), (1, .int (nI k)), (2, .int w)]) rfl ?_
  refine G.aload_n (pc := 0) cx dX10_isFined_0 rfl 0 rfl ?_
  refine G.iload_n (pc := 1) cx dX10_isFined_1 rfl 1 rfl ?_
  refine G.iconst (pc := 2) cx dX10_isFined_2 (v := 1) (by decide) ?_
  refine G.callV0 (pc := 3) (rest := []) (st1 := [.int (z (10 * k + 1))]) cx (c_X10_of l K sz o z r V k 1 (by omega)) ok_X10_of dX10_isFined_3 wm_ml_X10_29 rfl mw_m rfl rfl (Nat.le_of_ble_eq_true rfl) ⟨Nat.le_of_ble_eq_true rfl, Nat.le_of_ble_eq_true rfl⟩ rfl ?_
  refine G.iload_n (pc := 6) cx dX10_isFined_6 rfl 2 rfl ?_
  refine G.icmp_ne (pc := 7) cx dX10_isFined_7 (tgt := 22) (by decide) (fun cq7 => ?_) (fun cq7 => ?_)
  · skip
    refine G.iconst (pc := 22) cx dX10_isFined_22 (v := 0) (by decide) ?_
    refine G.zret (pc := 23) cx rfl dX10_isFined_23 rfl ?_ ?_ rfl
    · refine congrArg (fun x => some (Value.int x)) ?_
      (try clear hin9); (try clear cx); first | rfl | (refine b2_t ?_; grind) | (refine b2_f ?_; grind) | (simp [*]; done) | (simp_all; done) | grind
    · rfl
  · skip
    refine G.aload_n (pc := 10) cx dX10_isFined_10 rfl 0 rfl ?_
    refine G.iload_n (pc := 11) cx dX10_isFined_11 rfl 1 rfl ?_
    refine G.callV0 (pc := 12) (rest := []) (st1 := [.int (b2 (z (10 * k + 2) = 2))]) cx (c_X10_isGone l K sz o z r V k (by omega)) ok_X10_isGone dX10_isFined_12 wm_ml_X10_42 rfl mw_m rfl rfl (Nat.le_of_ble_eq_true rfl) ⟨Nat.le_of_ble_eq_true rfl, Nat.le_of_ble_eq_true rfl⟩ rfl ?_
    refine G.if_neB (pc := 15) cx dX10_isFined_15 (tgt := 22) (by decide) (fun cq15 => ?_) (fun cq15 => ?_)
    · skip
      refine G.iconst (pc := 22) cx dX10_isFined_22 (v := 0) (by decide) ?_
      refine G.zret (pc := 23) cx rfl dX10_isFined_23 rfl ?_ ?_ rfl
      · refine congrArg (fun x => some (Value.int x)) ?_
        (try clear hin9); (try clear cx); first | rfl | (refine b2_t ?_; grind) | (refine b2_f ?_; grind) | (simp [*]; done) | (simp_all; done) | grind
      · rfl
    · skip
      refine G.iconst (pc := 18) cx dX10_isFined_18 (v := 1) (by decide) ?_
      refine G.goto (pc := 19) cx dX10_isFined_19 (tgt := 23) (by decide) ?_
      refine G.zret (pc := 23) cx rfl dX10_isFined_23 rfl ?_ ?_ rfl
      · refine congrArg (fun x => some (Value.int x)) ?_
        (try clear hin9); (try clear cx); first | rfl | (refine b2_t ?_; grind) | (refine b2_f ?_; grind) | (simp [*]; done) | (simp_all; done) | grind
      · rfl
set_option maxHeartbeats 4000000 in
set_option maxRecDepth 100000 in
theorem c_X10_fineWatch (l : Launch) (K : KT) (sz : Nat) (o : Nat) (z : Zt) (r : Rt) (V : VW) (w : Int32) (x : Int32) (N : Nat) (n : Nat) (hN : z 194 = nI N) (h16 : N ≤ 16) (hn : r.2.2.2.2 0 = nI n) (h4 : n ≤ 4) : Ct l K yX10_fineWatch cX10_fineWatch 6 (some .int) 4 [.ref o, .int w, .int x] (mw K o z r V) sz (some (.int (if zNoFW z N w x < 0 then zNoFW z N w x else nI (zOfW z w N)))) (mw K o (if zNoFW z N w x < 0 then z else zFineTo z N w x N) (if zNoFW z N w x < 0 then r else rRec r n z) V) sz 0 0 := by
  refine Ct.ofG (by decide) (Nat.le_of_ble_eq_true rfl) ?_
  intro p9 e9 s9 m9 a9 b9 t9 c9 cx hin9
  refine G.lv0 (lv2 := [(0, .ref o), (1, .int w), (2, .int x)]) rfl ?_
  have hF : ∀ k, k ≤ N → zFineTo z N w x k 194 = nI N := fun k hk => (zFineTo_lo z N w x (by omega) (by omega) (by omega) (by omega) k (fun q hq => by omega)).trans hN
  have hB := zOfW_le z w N
  refine G.iload_n (pc := 0) cx dX10_fineWatch_0 rfl 1 rfl ?_
  refine G.iconst (pc := 1) cx dX10_fineWatch_1 (v := 0) (by decide) ?_
  refine G.iconst (pc := 2) cx dX10_fineWatch_2 (v := 1) (by decide) ?_
  refine G.callS0 (pc := 3) (rest := []) (st1 := [.int (b2 (0 ≤ w ∧ w ≤ 1))]) cx (c_X10_in l K sz w 0 1 (mw K o z r V)) ok_X10_in dX10_fineWatch_3 wm_ml_X10_25 rfl rfl (Nat.le_of_ble_eq_true rfl) ⟨Nat.le_of_ble_eq_true rfl, Nat.le_of_ble_eq_true rfl⟩ rfl ?_
  refine G.if_eqB (pc := 6) cx dX10_fineWatch_6 (tgt := 20) (by decide) (fun cq6 => ?_) (fun cq6 => ?_)
  · skip
    refine G.ldc (pc := 20) cx dX10_fineWatch_20 (v := (-1000001)) wm_ct_X10_64 ?_
    refine G.iret (pc := 22) cx rfl dX10_fineWatch_22 ?_ ?_ rfl
    · refine congrArg (fun x => some (Value.int x)) ?_
      (try clear hin9); (try clear cx); rw [show zNoFW z N w x = -1000001 from by unfold zNoFW; first | exact if_pos (Or.inl cq6) | exact if_pos (Or.inr cq17)]; rfl
    · show _ = _
      (try clear hin9); (try clear cx); rw [show zNoFW z N w x = -1000001 from by unfold zNoFW; first | exact if_pos (Or.inl cq6) | exact if_pos (Or.inr cq17)]; rfl
  · skip
    refine G.iload_n (pc := 9) cx dX10_fineWatch_9 rfl 2 rfl ?_
    refine G.iconst (pc := 10) cx dX10_fineWatch_10 (v := 1) (by decide) ?_
    refine G.sipush (pc := 11) cx dX10_fineWatch_11 (v := 999) (by decide) ?_
    refine G.callS0 (pc := 14) (rest := []) (st1 := [.int (b2 (1 ≤ x ∧ x ≤ 999))]) cx (c_X10_in l K sz x 1 999 (mw K o z r V)) ok_X10_in dX10_fineWatch_14 wm_ml_X10_25 rfl rfl (Nat.le_of_ble_eq_true rfl) ⟨Nat.le_of_ble_eq_true rfl, Nat.le_of_ble_eq_true rfl⟩ rfl ?_
    refine G.if_neB (pc := 17) cx dX10_fineWatch_17 (tgt := 23) (by decide) (fun cq17 => ?_) (fun cq17 => ?_)
    · skip
      refine G.aload_n (pc := 23) cx dX10_fineWatch_23 rfl 0 rfl ?_
      refine G.iload_n (pc := 24) cx dX10_fineWatch_24 rfl 1 rfl ?_
      refine G.aload_n (pc := 25) cx dX10_fineWatch_25 rfl 0 rfl ?_
      refine G.getM (pc := 26) cx dX10_fineWatch_26 0 wm_fl_X10_7 (by decide) rfl ?_
      refine G.sipush (pc := 29) cx dX10_fineWatch_29 (v := 194) (by decide) ?_
      refine G.ialdV (pc := 32) cx dX10_fineWatch_32 mw_z (j := 194) rfl (by omega) (by decide) ((cut_at (by omega)).trans (hN)) ?_
      refine G.callV0 (pc := 33) (rest := []) (st1 := [.int (nI (zOfW z w N))]) cx (c_X10_ofWatch l K sz o z r V w N (by omega)) ok_X10_ofWatch dX10_fineWatch_33 wm_ml_X10_125 rfl mw_m rfl rfl (Nat.le_of_ble_eq_true rfl) ⟨Nat.le_of_ble_eq_true rfl, Nat.le_of_ble_eq_true rfl⟩ rfl ?_
      refine G.istore_n (pc := 36) cx dX10_fineWatch_36 rfl (by decide) rfl ?_
      refine G.iload_n (pc := 37) cx dX10_fineWatch_37 rfl 0 rfl ?_
      have J46_1 : G K p9 l e9 (rmL 4 0 0) s9 m9 a9 b9 t9 c9 (MQ b9 (QCt K (some (.int (if zNoFW z N w x < 0 then zNoFW z N w x else nI (zOfW z w N)))) (mw K o (if zNoFW z N w x < 0 then z else zFineTo z N w x N) (if zNoFW z N w x < 0 then r else rRec r n z) V) sz) a9 s9 0 0 (kA K)) 6 (mw K o z r V) sz 0 0 46 [(0, .ref o), (1, .int w), (2, .int x), (3, .int (nI (zOfW z w N)))] [.int (b2 (0 < zOfW z w N))] := by
        refine G.istore (pc := 46) cx dX10_fineWatch_46 (by decide) rfl ?_
        refine G.iconst (pc := 48) cx dX10_fineWatch_48 (v := 0) (by decide) ?_
        refine G.istore (pc := 49) cx dX10_fineWatch_49 (by decide) rfl ?_
        have L51_2 : ∀ (f k51 : Nat), N - k51 < f → k51 ≤ N → G K p9 l e9 (rmL 4 0 0) s9 m9 a9 b9 t9 c9 (MQ b9 (QCt K (some (.int (if zNoFW z N w x < 0 then zNoFW z N w x else nI (zOfW z w N)))) (mw K o (if zNoFW z N w x < 0 then z else zFineTo z N w x N) (if zNoFW z N w x < 0 then r else rRec r n z) V) sz) a9 s9 0 0 (kA K)) 6 (mw K o z r V) sz 0 0 51 [(0, .ref o), (1, .int w), (2, .int x), (3, .int (nI (zOfW z w N))), (4, .int (b2 (zCan z N w x k51 = true))), (5, .int (nI k51))] [] := by
          intro f
          induction f with
          | zero => intro k51 h9; omega
          | succ f ih51 =>
            intro k51 h951 h851
            refine G.iload (pc := 51) cx dX10_fineWatch_51 5 rfl ?_
            refine G.aload_n (pc := 53) cx dX10_fineWatch_53 rfl 0 rfl ?_
            refine G.getM (pc := 54) cx dX10_fineWatch_54 0 wm_fl_X10_7 (by decide) rfl ?_
            refine G.sipush (pc := 57) cx dX10_fineWatch_57 (v := 194) (by decide) ?_
            refine G.ialdV (pc := 60) cx dX10_fineWatch_60 mw_z (j := 194) rfl (by omega) (by decide) ((cut_at (by omega)).trans (hN)) ?_
            refine G.icmp_geN (pc := 61) cx k51 N (by omega) (by omega) dX10_fineWatch_61 (tgt := 113) (by decide) (fun cq61 => ?_) (fun cq61 => ?_)
            · skip
              have ex51 : k51 = N := by omega
              try rw [ex51]
              refine G.iload (pc := 113) cx dX10_fineWatch_113 4 rfl ?_
              refine G.if_neB (pc := 115) cx dX10_fineWatch_115 (tgt := 121) (by decide) (fun cq115 => ?_) (fun cq115 => ?_)
              · skip
                refine G.aload_n (pc := 121) cx dX10_fineWatch_121 rfl 0 rfl ?_
                refine G.aload_n (pc := 122) cx dX10_fineWatch_122 rfl 0 rfl ?_
                refine G.getM (pc := 123) cx dX10_fineWatch_123 0 wm_fl_X10_7 (by decide) rfl ?_
                refine G.callV0 (pc := 126) (rest := []) (st1 := []) cx (c_X10_record l K sz o z r V n (by first | assumption | simp [*]) (by omega)) ok_X10_record dX10_fineWatch_126 wm_ml_X10_76 rfl mw_m rfl rfl (Nat.le_of_ble_eq_true rfl) ⟨Nat.le_of_ble_eq_true rfl, Nat.le_of_ble_eq_true rfl⟩ rfl ?_
                refine G.iconst (pc := 129) cx dX10_fineWatch_129 (v := 0) (by decide) ?_
                refine G.istore (pc := 130) cx dX10_fineWatch_130 (by decide) rfl ?_
                have L132_3 : ∀ (f k132 : Nat), N - k132 < f → k132 ≤ N → G K p9 l e9 (rmL 4 0 0) s9 m9 a9 b9 t9 c9 (MQ b9 (QCt K (some (.int (if zNoFW z N w x < 0 then zNoFW z N w x else nI (zOfW z w N)))) (mw K o (if zNoFW z N w x < 0 then z else zFineTo z N w x N) (if zNoFW z N w x < 0 then r else rRec r n z) V) sz) a9 s9 0 0 (kA K)) 6 (mw K o (zFineTo z N w x k132) (rRec r n z) V) sz 0 0 132 [(0, .ref o), (1, .int w), (2, .int x), (3, .int (nI (zOfW z w N))), (4, .int (b2 (zCan z N w x N = true))), (5, .int (nI k132))] [] := by
                  intro f
                  induction f with
                  | zero => intro k132 h9; omega
                  | succ f ih132 =>
                    intro k132 h9132 h8132
                    refine G.iload (pc := 132) cx dX10_fineWatch_132 5 rfl ?_
                    refine G.aload_n (pc := 134) cx dX10_fineWatch_134 rfl 0 rfl ?_
                    refine G.getM (pc := 135) cx dX10_fineWatch_135 0 wm_fl_X10_7 (by decide) rfl ?_
                    refine G.sipush (pc := 138) cx dX10_fineWatch_138 (v := 194) (by decide) ?_
                    refine G.ialdV (pc := 141) cx dX10_fineWatch_141 mw_z (j := 194) rfl (by omega) (by decide) ((cut_at (by omega)).trans (hF _ (by omega))) ?_
                    refine G.icmp_geN (pc := 142) cx k132 N (by omega) (by omega) dX10_fineWatch_142 (tgt := 177) (by decide) (fun cq142 => ?_) (fun cq142 => ?_)
                    · skip
                      have ex132 : k132 = N := by omega
                      try rw [ex132]
                      refine G.iload_n (pc := 177) cx dX10_fineWatch_177 rfl 3 rfl ?_
                      refine G.iret (pc := 178) cx rfl dX10_fineWatch_178 ?_ ?_ rfl
                      · refine congrArg (fun x => some (Value.int x)) ?_
                        (try clear L132_3); (try clear ih132); (try clear L51_2); (try clear ih51); (try clear J46_1); (try clear hin9); (try clear cx); rw [show zNoFW z N w x = 0 from by unfold zNoFW; rw [if_neg (fun q => q.elim (fun q => q cq6) (fun q => q cq17)), if_pos cq115]]; rfl
                      · show _ = _
                        (try clear L132_3); (try clear ih132); (try clear L51_2); (try clear ih51); (try clear J46_1); (try clear hin9); (try clear cx); rw [show zNoFW z N w x = 0 from by unfold zNoFW; rw [if_neg (fun q => q.elim (fun q => q cq6) (fun q => q cq17)), if_pos cq115]]; rfl
                    · skip
                      refine G.aload_n (pc := 145) cx dX10_fineWatch_145 rfl 0 rfl ?_
                      refine G.iload (pc := 146) cx dX10_fineWatch_146 5 rfl ?_
                      refine G.iload_n (pc := 148) cx dX10_fineWatch_148 rfl 1 rfl ?_
                      refine G.callV0 (pc := 149) (rest := []) (st1 := [.int (b2 ((zFineTo z N w x k132) (10 * k132 + 1) = w ∧ ¬ (zFineTo z N w x k132) (10 * k132 + 2) = 2))]) cx (c_X10_isFined l K sz o (zFineTo z N w x k132) (rRec r n z) V k132 w (by omega)) ok_X10_isFined dX10_fineWatch_149 wm_ml_X10_128 rfl mw_m rfl rfl (Nat.le_of_ble_eq_true rfl) ⟨Nat.le_of_ble_eq_true rfl, Nat.le_of_ble_eq_true rfl⟩ rfl ?_
                      refine G.if_eqB (pc := 152) cx dX10_fineWatch_152 (tgt := 171) (by decide) (fun cq152 => ?_) (fun cq152 => ?_)
                      · skip
                        refine G.iinc (pc := 171) cx dX10_fineWatch_171 (v := nI (k132 + 1)) (k := 5) rfl (nI_add k132 1) (by decide) rfl ?_
                        refine G.goto (pc := 174) cx dX10_fineWatch_174 (tgt := 132) (by decide) ?_
                        refine G.cast (V' := (mw K o (zFineTo z N w x (k132 + 1)) (rRec r n z) V)) (congrArg (fun q9 => mw K o q9 (rRec r n z) V) (by simp [zFineTo, *])) ?_
                        refine G.castL (lv' := [(0, .ref o), (1, .int w), (2, .int x), (3, .int (nI (zOfW z w N))), (4, .int (b2 (zCan z N w x N = true))), (5, .int (nI (k132 + 1)))]) [1, 2, 3, 4, 5, 0] rfl ?_
                        exact ih132 (k132 + 1) (by omega) (by omega)
                      · skip
                        have h0 := zOfW_pos (z := zFineTo z N w x k132) (by omega : k132 < N) cq152
                        refine G.aload_n (pc := 155) cx dX10_fineWatch_155 rfl 0 rfl ?_
                        refine G.iload (pc := 156) cx dX10_fineWatch_156 5 rfl ?_
                        refine G.bipush (pc := 158) cx dX10_fineWatch_158 (v := 6) (by decide) ?_
                        refine G.aload_n (pc := 160) cx dX10_fineWatch_160 rfl 0 rfl ?_
                        refine G.iload (pc := 161) cx dX10_fineWatch_161 5 rfl ?_
                        refine G.iload_n (pc := 163) cx dX10_fineWatch_163 rfl 1 rfl ?_
                        refine G.iload_n (pc := 164) cx dX10_fineWatch_164 rfl 2 rfl ?_
                        refine G.callV0 (pc := 165) (rest := [.int 6, .int (nI k132), .ref o]) (st1 := [.int (zPart (zFineTo z N w x k132) N k132 w x), .int 6, .int (nI k132), .ref o]) cx (c_X10_partOf l K sz o (zFineTo z N w x k132) (rRec r n z) V k132 w x N (by exact hF _ (by omega)) (by omega) (by omega) (by assumption)) ok_X10_partOf dX10_fineWatch_165 wm_ml_X10_132 rfl mw_m rfl rfl (Nat.le_of_ble_eq_true rfl) ⟨Nat.le_of_ble_eq_true rfl, Nat.le_of_ble_eq_true rfl⟩ rfl ?_
                        refine G.callV0 (pc := 168) (rest := []) (st1 := []) cx (c_X10_charge l K sz o (zFineTo z N w x k132) (rRec r n z) V k132 6 (zPart (zFineTo z N w x k132) N k132 w x) (by omega) (by omega)) ok_X10_charge dX10_fineWatch_168 wm_ml_X10_104 rfl mw_m rfl rfl (Nat.le_of_ble_eq_true rfl) ⟨Nat.le_of_ble_eq_true rfl, Nat.le_of_ble_eq_true rfl⟩ rfl ?_
                        refine G.iinc (pc := 171) cx dX10_fineWatch_171 (v := nI (k132 + 1)) (k := 5) rfl (nI_add k132 1) (by decide) rfl ?_
                        refine G.goto (pc := 174) cx dX10_fineWatch_174 (tgt := 132) (by decide) ?_
                        refine G.cast (V' := (mw K o (zFineTo z N w x (k132 + 1)) (rRec r n z) V)) (congrArg (fun q9 => mw K o q9 (rRec r n z) V) (by simp [zFineTo, *])) ?_
                        refine G.castL (lv' := [(0, .ref o), (1, .int w), (2, .int x), (3, .int (nI (zOfW z w N))), (4, .int (b2 (zCan z N w x N = true))), (5, .int (nI (k132 + 1)))]) [1, 2, 3, 4, 5, 0] rfl ?_
                        exact ih132 (k132 + 1) (by omega) (by omega)
                refine G.cast (V' := (mw K o (zFineTo z N w x 0) (rRec r n z) V)) (congrArg (fun q9 => mw K o q9 (rRec r n z) V) (by rfl)) ?_
                refine G.castL (lv' := [(0, .ref o), (1, .int w), (2, .int x), (3, .int (nI (zOfW z w N))), (4, .int (b2 (zCan z N w x N = true))), (5, .int 0)]) [1, 2, 3, 4, 5, 0] rfl ?_
                refine G.lv0 (lv2 := [(0, .ref o), (1, .int w), (2, .int x), (3, .int (nI (zOfW z w N))), (4, .int (b2 (zCan z N w x N = true))), (5, .int (nI 0))]) (congrArg (fun q9 => ([(0, .ref o), (1, .int w), (2, .int x), (3, .int (nI (zOfW z w N))), (4, .int (b2 (zCan z N w x N = true))), (5, .int q9)] : List (Nat × Value))) (show (0 : Int32) = nI 0 from by rfl)) ?_
                exact L132_3 (N + 1) 0 (by omega) (by omega)
              · skip
                refine G.ldc (pc := 118) cx dX10_fineWatch_118 (v := (-1000002)) wm_ct_X10_37 ?_
                refine G.iret (pc := 120) cx rfl dX10_fineWatch_120 ?_ ?_ rfl
                · refine congrArg (fun x => some (Value.int x)) ?_
                  (try clear L132_3); (try clear ih132); (try clear L51_2); (try clear ih51); (try clear J46_1); (try clear hin9); (try clear cx); rw [show zNoFW z N w x = -1000002 from by unfold zNoFW; rw [if_neg (fun q => q.elim (fun q => q cq6) (fun q => q cq17)), if_neg cq115]]; rfl
                · show _ = _
                  (try clear L132_3); (try clear ih132); (try clear L51_2); (try clear ih51); (try clear J46_1); (try clear hin9); (try clear cx); rw [show zNoFW z N w x = -1000002 from by unfold zNoFW; rw [if_neg (fun q => q.elim (fun q => q cq6) (fun q => q cq17)), if_neg cq115]]; rfl
            · skip
              refine G.iload (pc := 64) cx dX10_fineWatch_64 4 rfl ?_
              refine G.if_eqB (pc := 66) cx dX10_fineWatch_66 (tgt := 104) (by decide) (fun cq66 => ?_) (fun cq66 => ?_)
              · skip
                refine G.iconst (pc := 104) cx dX10_fineWatch_104 (v := 0) (by decide) ?_
                refine G.istore (pc := 105) cx dX10_fineWatch_105 (by decide) rfl ?_
                refine G.iinc (pc := 107) cx dX10_fineWatch_107 (v := nI (k51 + 1)) (k := 5) rfl (nI_add k51 1) (by decide) rfl ?_
                refine G.goto (pc := 110) cx dX10_fineWatch_110 (tgt := 51) (by decide) ?_
                refine G.castL (lv' := [(0, .ref o), (1, .int w), (2, .int x), (3, .int (nI (zOfW z w N))), (4, .int 0), (5, .int (nI (k51 + 1)))]) [2, 3, 4, 5, 1, 0] rfl ?_
                refine G.lv0 (lv2 := [(0, .ref o), (1, .int w), (2, .int x), (3, .int (nI (zOfW z w N))), (4, .int (b2 (zCan z N w x (k51 + 1) = true))), (5, .int (nI (k51 + 1)))]) (congrArg (fun q9 => ([(0, .ref o), (1, .int w), (2, .int x), (3, .int (nI (zOfW z w N))), (4, .int q9), (5, .int (nI (k51 + 1)))] : List (Nat × Value))) (show (0 : Int32) = b2 (zCan z N w x (k51 + 1) = true) from by first | exact zCan_0 cq66 | exact zCan_1 cq66 cq76 | exact zCan_2 cq66 cq97 | exact zCan_3 cq66 cq76 cq97)) ?_
                exact ih51 (k51 + 1) (by omega) (by omega)
              · skip
                refine G.aload_n (pc := 69) cx dX10_fineWatch_69 rfl 0 rfl ?_
                refine G.iload (pc := 70) cx dX10_fineWatch_70 5 rfl ?_
                refine G.iload_n (pc := 72) cx dX10_fineWatch_72 rfl 1 rfl ?_
                refine G.callV0 (pc := 73) (rest := []) (st1 := [.int (b2 (z (10 * k51 + 1) = w ∧ ¬ z (10 * k51 + 2) = 2))]) cx (c_X10_isFined l K sz o z r V k51 w (by omega)) ok_X10_isFined dX10_fineWatch_73 wm_ml_X10_128 rfl mw_m rfl rfl (Nat.le_of_ble_eq_true rfl) ⟨Nat.le_of_ble_eq_true rfl, Nat.le_of_ble_eq_true rfl⟩ rfl ?_
                refine G.if_eqB (pc := 76) cx dX10_fineWatch_76 (tgt := 100) (by decide) (fun cq76 => ?_) (fun cq76 => ?_)
                · skip
                  refine G.iconst (pc := 100) cx dX10_fineWatch_100 (v := 1) (by decide) ?_
                  refine G.goto (pc := 101) cx dX10_fineWatch_101 (tgt := 105) (by decide) ?_
                  refine G.istore (pc := 105) cx dX10_fineWatch_105 (by decide) rfl ?_
                  refine G.iinc (pc := 107) cx dX10_fineWatch_107 (v := nI (k51 + 1)) (k := 5) rfl (nI_add k51 1) (by decide) rfl ?_
                  refine G.goto (pc := 110) cx dX10_fineWatch_110 (tgt := 51) (by decide) ?_
                  refine G.castL (lv' := [(0, .ref o), (1, .int w), (2, .int x), (3, .int (nI (zOfW z w N))), (4, .int 1), (5, .int (nI (k51 + 1)))]) [2, 3, 4, 5, 1, 0] rfl ?_
                  refine G.lv0 (lv2 := [(0, .ref o), (1, .int w), (2, .int x), (3, .int (nI (zOfW z w N))), (4, .int (b2 (zCan z N w x (k51 + 1) = true))), (5, .int (nI (k51 + 1)))]) (congrArg (fun q9 => ([(0, .ref o), (1, .int w), (2, .int x), (3, .int (nI (zOfW z w N))), (4, .int q9), (5, .int (nI (k51 + 1)))] : List (Nat × Value))) (show (1 : Int32) = b2 (zCan z N w x (k51 + 1) = true) from by first | exact zCan_0 cq66 | exact zCan_1 cq66 cq76 | exact zCan_2 cq66 cq97 | exact zCan_3 cq66 cq76 cq97)) ?_
                  exact ih51 (k51 + 1) (by omega) (by omega)
                · skip
                  have h0 := zOfW_pos cq61 cq76
                  refine G.aload_n (pc := 79) cx dX10_fineWatch_79 rfl 0 rfl ?_
                  refine G.iload (pc := 80) cx dX10_fineWatch_80 5 rfl ?_
                  refine G.callV0 (pc := 82) (rest := []) (st1 := [.int (zBal z k51)]) cx (c_X10_balance l K sz o z r V k51 (by omega)) ok_X10_balance dX10_fineWatch_82 wm_ml_X10_95 rfl mw_m rfl rfl (Nat.le_of_ble_eq_true rfl) ⟨Nat.le_of_ble_eq_true rfl, Nat.le_of_ble_eq_true rfl⟩ rfl ?_
                  refine G.aload_n (pc := 85) cx dX10_fineWatch_85 rfl 0 rfl ?_
                  refine G.iload (pc := 86) cx dX10_fineWatch_86 5 rfl ?_
                  refine G.iload_n (pc := 88) cx dX10_fineWatch_88 rfl 1 rfl ?_
                  refine G.iload_n (pc := 89) cx dX10_fineWatch_89 rfl 2 rfl ?_
                  refine G.callV0 (pc := 90) (rest := [.int (zBal z k51)]) (st1 := [.int (zPart z N k51 w x), .int (zBal z k51)]) cx (c_X10_partOf l K sz o z r V k51 w x N (by assumption) (by omega) (by omega) (by assumption)) ok_X10_partOf dX10_fineWatch_90 wm_ml_X10_132 rfl mw_m rfl rfl (Nat.le_of_ble_eq_true rfl) ⟨Nat.le_of_ble_eq_true rfl, Nat.le_of_ble_eq_true rfl⟩ rfl ?_
                  refine G.isub (pc := 93) cx dX10_fineWatch_93 ?_
                  refine G.sipush (pc := 94) cx dX10_fineWatch_94 (v := (-4000)) (by decide) ?_
                  refine G.icmp_lt (pc := 97) cx dX10_fineWatch_97 (tgt := 104) (by decide) (fun cq97 => ?_) (fun cq97 => ?_)
                  · skip
                    refine G.iconst (pc := 104) cx dX10_fineWatch_104 (v := 0) (by decide) ?_
                    refine G.istore (pc := 105) cx dX10_fineWatch_105 (by decide) rfl ?_
                    refine G.iinc (pc := 107) cx dX10_fineWatch_107 (v := nI (k51 + 1)) (k := 5) rfl (nI_add k51 1) (by decide) rfl ?_
                    refine G.goto (pc := 110) cx dX10_fineWatch_110 (tgt := 51) (by decide) ?_
                    refine G.castL (lv' := [(0, .ref o), (1, .int w), (2, .int x), (3, .int (nI (zOfW z w N))), (4, .int 0), (5, .int (nI (k51 + 1)))]) [2, 3, 4, 5, 1, 0] rfl ?_
                    refine G.lv0 (lv2 := [(0, .ref o), (1, .int w), (2, .int x), (3, .int (nI (zOfW z w N))), (4, .int (b2 (zCan z N w x (k51 + 1) = true))), (5, .int (nI (k51 + 1)))]) (congrArg (fun q9 => ([(0, .ref o), (1, .int w), (2, .int x), (3, .int (nI (zOfW z w N))), (4, .int q9), (5, .int (nI (k51 + 1)))] : List (Nat × Value))) (show (0 : Int32) = b2 (zCan z N w x (k51 + 1) = true) from by first | exact zCan_0 cq66 | exact zCan_1 cq66 cq76 | exact zCan_2 cq66 cq97 | exact zCan_3 cq66 cq76 cq97)) ?_
                    exact ih51 (k51 + 1) (by omega) (by omega)
                  · skip
                    refine G.iconst (pc := 100) cx dX10_fineWatch_100 (v := 1) (by decide) ?_
                    refine G.goto (pc := 101) cx dX10_fineWatch_101 (tgt := 105) (by decide) ?_
                    refine G.istore (pc := 105) cx dX10_fineWatch_105 (by decide) rfl ?_
                    refine G.iinc (pc := 107) cx dX10_fineWatch_107 (v := nI (k51 + 1)) (k := 5) rfl (nI_add k51 1) (by decide) rfl ?_
                    refine G.goto (pc := 110) cx dX10_fineWatch_110 (tgt := 51) (by decide) ?_
                    refine G.castL (lv' := [(0, .ref o), (1, .int w), (2, .int x), (3, .int (nI (zOfW z w N))), (4, .int 1), (5, .int (nI (k51 + 1)))]) [2, 3, 4, 5, 1, 0] rfl ?_
                    refine G.lv0 (lv2 := [(0, .ref o), (1, .int w), (2, .int x), (3, .int (nI (zOfW z w N))), (4, .int (b2 (zCan z N w x (k51 + 1) = true))), (5, .int (nI (k51 + 1)))]) (congrArg (fun q9 => ([(0, .ref o), (1, .int w), (2, .int x), (3, .int (nI (zOfW z w N))), (4, .int q9), (5, .int (nI (k51 + 1)))] : List (Nat × Value))) (show (1 : Int32) = b2 (zCan z N w x (k51 + 1) = true) from by first | exact zCan_0 cq66 | exact zCan_1 cq66 cq76 | exact zCan_2 cq66 cq97 | exact zCan_3 cq66 cq76 cq97)) ?_
                    exact ih51 (k51 + 1) (by omega) (by omega)
        refine G.castL (lv' := [(0, .ref o), (1, .int w), (2, .int x), (3, .int (nI (zOfW z w N))), (4, .int (b2 (0 < zOfW z w N))), (5, .int 0)]) [2, 3, 4, 5, 1, 0] rfl ?_
        refine G.lv0 (lv2 := [(0, .ref o), (1, .int w), (2, .int x), (3, .int (nI (zOfW z w N))), (4, .int (b2 (zCan z N w x 0 = true))), (5, .int 0)]) (congrArg (fun q9 => ([(0, .ref o), (1, .int w), (2, .int x), (3, .int (nI (zOfW z w N))), (4, .int q9), (5, .int 0)] : List (Nat × Value))) (show (b2 (0 < zOfW z w N) : Int32) = b2 (zCan z N w x 0 = true) from by first | rfl | (unfold zCan b2; simp))) ?_
        refine G.lv0 (lv2 := [(0, .ref o), (1, .int w), (2, .int x), (3, .int (nI (zOfW z w N))), (4, .int (b2 (zCan z N w x 0 = true))), (5, .int (nI 0))]) (congrArg (fun q9 => ([(0, .ref o), (1, .int w), (2, .int x), (3, .int (nI (zOfW z w N))), (4, .int (b2 (zCan z N w x 0 = true))), (5, .int q9)] : List (Nat × Value))) (show (0 : Int32) = nI 0 from by first | rfl | (unfold zCan b2; simp))) ?_
        exact L51_2 (N + 1) 0 (by omega) (by omega)
      refine G.if_leN (pc := 38) cx (zOfW z w N) (by omega) dX10_fineWatch_38 (tgt := 45) (by decide) (fun cq38 => ?_) (fun cq38 => ?_)
      · skip
        refine G.iconst (pc := 45) cx dX10_fineWatch_45 (v := 0) (by decide) ?_
        refine G.castS (st' := [.int (b2 (0 < zOfW z w N))]) (congrArg (fun q9 => ([.int q9] : List Value)) (show (0 : Int32) = b2 (0 < zOfW z w N) from by first | exact (b2_t cq38).symm | exact (b2_f (by omega)).symm)) ?_
        refine G.castL (lv' := [(0, .ref o), (1, .int w), (2, .int x), (3, .int (nI (zOfW z w N)))]) [1, 2, 3, 0] rfl ?_
        exact J46_1
      · skip
        refine G.iconst (pc := 41) cx dX10_fineWatch_41 (v := 1) (by decide) ?_
        refine G.goto (pc := 42) cx dX10_fineWatch_42 (tgt := 46) (by decide) ?_
        refine G.castS (st' := [.int (b2 (0 < zOfW z w N))]) (congrArg (fun q9 => ([.int q9] : List Value)) (show (1 : Int32) = b2 (0 < zOfW z w N) from by first | exact (b2_t cq38).symm | exact (b2_f (by omega)).symm)) ?_
        refine G.castL (lv' := [(0, .ref o), (1, .int w), (2, .int x), (3, .int (nI (zOfW z w N)))]) [1, 2, 3, 0] rfl ?_
        exact J46_1
    · skip
      refine G.ldc (pc := 20) cx dX10_fineWatch_20 (v := (-1000001)) wm_ct_X10_64 ?_
      refine G.iret (pc := 22) cx rfl dX10_fineWatch_22 ?_ ?_ rfl
      · refine congrArg (fun x => some (Value.int x)) ?_
        (try clear L132_3); (try clear ih132); (try clear L51_2); (try clear ih51); (try clear J46_1); (try clear hin9); (try clear cx); rw [show zNoFW z N w x = -1000001 from by unfold zNoFW; first | exact if_pos (Or.inl cq6) | exact if_pos (Or.inr cq17)]; rfl
      · show _ = _
        (try clear L132_3); (try clear ih132); (try clear L51_2); (try clear ih51); (try clear J46_1); (try clear hin9); (try clear cx); rw [show zNoFW z N w x = -1000001 from by unfold zNoFW; first | exact if_pos (Or.inl cq6) | exact if_pos (Or.inr cq17)]; rfl
set_option maxHeartbeats 4000000 in
set_option maxRecDepth 100000 in
theorem c_X10_inPlace (l : Launch) (K : KT) (sz : Nat) (o : Nat) (z : Zt) (r : Rt) (V : VW) (q : Int32) (N : Nat) (hN : z 194 = nI N) (h16 : N ≤ 16) : Ct l K yX10_inPlace cX10_inPlace 4 (some .int) 1 [.ref o, .int q] (mw K o z r V) sz (some (.int (zSet z q N))) (mw K o z r V) sz 0 0 := by
  refine Ct.ofG (by decide) (Nat.le_of_ble_eq_true rfl) ?_
  intro p9 e9 s9 m9 a9 b9 t9 c9 cx hin9
  refine G.lv0 (lv2 := [(0, .ref o), (1, .int q)]) rfl ?_
  refine G.iconst (pc := 0) cx dX10_inPlace_0 (v := 0) (by decide) ?_
  refine G.istore_n (pc := 1) cx dX10_inPlace_1 rfl (by decide) rfl ?_
  refine G.iconst (pc := 2) cx dX10_inPlace_2 (v := 0) (by decide) ?_
  refine G.istore_n (pc := 3) cx dX10_inPlace_3 rfl (by decide) rfl ?_
  have L4_1 : ∀ (f k4 : Nat), N - k4 < f → k4 ≤ N → G K p9 l e9 (rmL 1 0 0) s9 m9 a9 b9 t9 c9 (MQ b9 (QCt K (some (.int (zSet z q N))) (mw K o z r V) sz) a9 s9 0 0 (kA K)) 4 (mw K o z r V) sz 0 0 4 [(0, .ref o), (1, .int q), (2, .int (zSet z q k4)), (3, .int (nI k4))] [] := by
    intro f
    induction f with
    | zero => intro k4 h9; omega
    | succ f ih4 =>
      intro k4 h94 h84
      refine G.iload_n (pc := 4) cx dX10_inPlace_4 rfl 3 rfl ?_
      refine G.aload_n (pc := 5) cx dX10_inPlace_5 rfl 0 rfl ?_
      refine G.getM (pc := 6) cx dX10_inPlace_6 0 wm_fl_X10_7 (by decide) rfl ?_
      refine G.sipush (pc := 9) cx dX10_inPlace_9 (v := 194) (by decide) ?_
      refine G.ialdV (pc := 12) cx dX10_inPlace_12 mw_z (j := 194) rfl (by omega) (by decide) ((cut_at (by omega)).trans (hN)) ?_
      refine G.icmp_geN (pc := 13) cx k4 N (by omega) (by omega) dX10_inPlace_13 (tgt := 42) (by decide) (fun cq13 => ?_) (fun cq13 => ?_)
      · skip
        have ex4 : k4 = N := by omega
        try rw [ex4]
        refine G.iload_n (pc := 42) cx dX10_inPlace_42 rfl 2 rfl ?_
        refine G.iret (pc := 43) cx rfl dX10_inPlace_43 ?_ ?_ rfl
        · rfl
        · rfl
      · skip
        refine G.iload_n (pc := 16) cx dX10_inPlace_16 rfl 2 rfl ?_
        refine G.aload_n (pc := 17) cx dX10_inPlace_17 rfl 0 rfl ?_
        refine G.iload_n (pc := 18) cx dX10_inPlace_18 rfl 3 rfl ?_
        refine G.iconst (pc := 19) cx dX10_inPlace_19 (v := 2) (by decide) ?_
        refine G.callV0 (pc := 20) (rest := [.int (zSet z q k4)]) (st1 := [.int (z (10 * k4 + 2)), .int (zSet z q k4)]) cx (c_X10_of l K sz o z r V k4 2 (by omega)) ok_X10_of dX10_inPlace_20 wm_ml_X10_29 rfl mw_m rfl rfl (Nat.le_of_ble_eq_true rfl) ⟨Nat.le_of_ble_eq_true rfl, Nat.le_of_ble_eq_true rfl⟩ rfl ?_
        refine G.iload_n (pc := 23) cx dX10_inPlace_23 rfl 1 rfl ?_
        refine G.icmp_ne (pc := 24) cx dX10_inPlace_24 (tgt := 33) (by decide) (fun cq24 => ?_) (fun cq24 => ?_)
        · skip
          refine G.iconst (pc := 33) cx dX10_inPlace_33 (v := 0) (by decide) ?_
          refine G.ior (pc := 34) cx dX10_inPlace_34 ?_
          refine G.istore_n (pc := 35) cx dX10_inPlace_35 rfl (by decide) rfl ?_
          refine G.iinc (pc := 36) cx dX10_inPlace_36 (v := nI (k4 + 1)) (k := 3) rfl (nI_add k4 1) (by decide) rfl ?_
          refine G.goto (pc := 39) cx dX10_inPlace_39 (tgt := 4) (by decide) ?_
          refine G.castL (lv' := [(0, .ref o), (1, .int q), (2, .int ((zSet z q k4) ||| 0)), (3, .int (nI (k4 + 1)))]) [2, 3, 1, 0] rfl ?_
          refine G.lv0 (lv2 := [(0, .ref o), (1, .int q), (2, .int (zSet z q (k4 + 1))), (3, .int (nI (k4 + 1)))]) (congrArg (fun q9 => ([(0, .ref o), (1, .int q), (2, .int q9), (3, .int (nI (k4 + 1)))] : List (Nat × Value))) (show ((zSet z q k4) ||| 0 : Int32) = zSet z q (k4 + 1) from by simp [zSet, *])) ?_
          exact ih4 (k4 + 1) (by omega) (by omega)
        · skip
          refine G.iconst (pc := 27) cx dX10_inPlace_27 (v := 1) (by decide) ?_
          refine G.iload_n (pc := 28) cx dX10_inPlace_28 rfl 3 rfl ?_
          refine G.ishl (pc := 29) cx dX10_inPlace_29 ?_
          refine G.goto (pc := 30) cx dX10_inPlace_30 (tgt := 34) (by decide) ?_
          refine G.ior (pc := 34) cx dX10_inPlace_34 ?_
          refine G.istore_n (pc := 35) cx dX10_inPlace_35 rfl (by decide) rfl ?_
          refine G.iinc (pc := 36) cx dX10_inPlace_36 (v := nI (k4 + 1)) (k := 3) rfl (nI_add k4 1) (by decide) rfl ?_
          refine G.goto (pc := 39) cx dX10_inPlace_39 (tgt := 4) (by decide) ?_
          refine G.castL (lv' := [(0, .ref o), (1, .int q), (2, .int ((zSet z q k4) ||| (1 <<< ((nI k4) &&& 31)))), (3, .int (nI (k4 + 1)))]) [2, 3, 1, 0] rfl ?_
          refine G.lv0 (lv2 := [(0, .ref o), (1, .int q), (2, .int (zSet z q (k4 + 1))), (3, .int (nI (k4 + 1)))]) (congrArg (fun q9 => ([(0, .ref o), (1, .int q), (2, .int q9), (3, .int (nI (k4 + 1)))] : List (Nat × Value))) (show ((zSet z q k4) ||| (1 <<< ((nI k4) &&& 31)) : Int32) = zSet z q (k4 + 1) from by simp [zSet, *])) ?_
          exact ih4 (k4 + 1) (by omega) (by omega)
  refine G.castL (lv' := [(0, .ref o), (1, .int q), (2, .int 0), (3, .int 0)]) [2, 3, 1, 0] rfl ?_
  refine G.lv0 (lv2 := [(0, .ref o), (1, .int q), (2, .int (zSet z q 0)), (3, .int 0)]) (congrArg (fun q9 => ([(0, .ref o), (1, .int q), (2, .int q9), (3, .int 0)] : List (Nat × Value))) (show (0 : Int32) = zSet z q 0 from by rfl)) ?_
  refine G.lv0 (lv2 := [(0, .ref o), (1, .int q), (2, .int (zSet z q 0)), (3, .int (nI 0))]) (congrArg (fun q9 => ([(0, .ref o), (1, .int q), (2, .int (zSet z q 0)), (3, .int q9)] : List (Nat × Value))) (show (0 : Int32) = nI 0 from by rfl)) ?_
  exact L4_1 (N + 1) 0 (by omega) (by omega)
set_option maxHeartbeats 4000000 in
set_option maxRecDepth 100000 in
theorem c_X10_aboardOf (l : Launch) (K : KT) (sz : Nat) (o : Nat) (z : Zt) (r : Rt) (V : VW) (w : Int32) (N : Nat) (hN : z 194 = nI N) (h16 : N ≤ 16) : Ct l K yX10_aboardOf cX10_aboardOf 4 (some .int) 1 [.ref o, .int w] (mw K o z r V) sz (some (.int (nI (zAbo z w N)))) (mw K o z r V) sz 0 0 := by
  refine Ct.ofG (by decide) (Nat.le_of_ble_eq_true rfl) ?_
  intro p9 e9 s9 m9 a9 b9 t9 c9 cx hin9
  refine G.lv0 (lv2 := [(0, .ref o), (1, .int w)]) rfl ?_
  refine G.iconst (pc := 0) cx dX10_aboardOf_0 (v := 0) (by decide) ?_
  refine G.istore_n (pc := 1) cx dX10_aboardOf_1 rfl (by decide) rfl ?_
  refine G.iconst (pc := 2) cx dX10_aboardOf_2 (v := 0) (by decide) ?_
  refine G.istore_n (pc := 3) cx dX10_aboardOf_3 rfl (by decide) rfl ?_
  have L4_1 : ∀ (f k4 : Nat), N - k4 < f → k4 ≤ N → G K p9 l e9 (rmL 1 0 0) s9 m9 a9 b9 t9 c9 (MQ b9 (QCt K (some (.int (nI (zAbo z w N)))) (mw K o z r V) sz) a9 s9 0 0 (kA K)) 4 (mw K o z r V) sz 0 0 4 [(0, .ref o), (1, .int w), (2, .int (nI (zAbo z w k4))), (3, .int (nI k4))] [] := by
    intro f
    induction f with
    | zero => intro k4 h9; omega
    | succ f ih4 =>
      intro k4 h94 h84
      refine G.iload_n (pc := 4) cx dX10_aboardOf_4 rfl 3 rfl ?_
      refine G.aload_n (pc := 5) cx dX10_aboardOf_5 rfl 0 rfl ?_
      refine G.getM (pc := 6) cx dX10_aboardOf_6 0 wm_fl_X10_7 (by decide) rfl ?_
      refine G.sipush (pc := 9) cx dX10_aboardOf_9 (v := 194) (by decide) ?_
      refine G.ialdV (pc := 12) cx dX10_aboardOf_12 mw_z (j := 194) rfl (by omega) (by decide) ((cut_at (by omega)).trans (hN)) ?_
      refine G.icmp_geN (pc := 13) cx k4 N (by omega) (by omega) dX10_aboardOf_13 (tgt := 49) (by decide) (fun cq13 => ?_) (fun cq13 => ?_)
      · skip
        have ex4 : k4 = N := by omega
        try rw [ex4]
        refine G.iload_n (pc := 49) cx dX10_aboardOf_49 rfl 2 rfl ?_
        refine G.iret (pc := 50) cx rfl dX10_aboardOf_50 ?_ ?_ rfl
        · rfl
        · rfl
      · skip
        refine G.iload_n (pc := 16) cx dX10_aboardOf_16 rfl 2 rfl ?_
        refine G.aload_n (pc := 17) cx dX10_aboardOf_17 rfl 0 rfl ?_
        refine G.iload_n (pc := 18) cx dX10_aboardOf_18 rfl 3 rfl ?_
        refine G.iconst (pc := 19) cx dX10_aboardOf_19 (v := 1) (by decide) ?_
        refine G.callV0 (pc := 20) (rest := [.int (nI (zAbo z w k4))]) (st1 := [.int (z (10 * k4 + 1)), .int (nI (zAbo z w k4))]) cx (c_X10_of l K sz o z r V k4 1 (by omega)) ok_X10_of dX10_aboardOf_20 wm_ml_X10_29 rfl mw_m rfl rfl (Nat.le_of_ble_eq_true rfl) ⟨Nat.le_of_ble_eq_true rfl, Nat.le_of_ble_eq_true rfl⟩ rfl ?_
        refine G.iload_n (pc := 23) cx dX10_aboardOf_23 rfl 1 rfl ?_
        refine G.icmp_ne (pc := 24) cx dX10_aboardOf_24 (tgt := 40) (by decide) (fun cq24 => ?_) (fun cq24 => ?_)
        · skip
          refine G.iconst (pc := 40) cx dX10_aboardOf_40 (v := 0) (by decide) ?_
          refine G.iaddN (pc := 41) cx dX10_aboardOf_41 (zAbo z w k4) 0 ?_
          refine G.istore_n (pc := 42) cx dX10_aboardOf_42 rfl (by decide) rfl ?_
          refine G.iinc (pc := 43) cx dX10_aboardOf_43 (v := nI (k4 + 1)) (k := 3) rfl (nI_add k4 1) (by decide) rfl ?_
          refine G.goto (pc := 46) cx dX10_aboardOf_46 (tgt := 4) (by decide) ?_
          refine G.castL (lv' := [(0, .ref o), (1, .int w), (2, .int (nI ((zAbo z w k4) + 0))), (3, .int (nI (k4 + 1)))]) [2, 3, 1, 0] rfl ?_
          refine G.lv0 (lv2 := [(0, .ref o), (1, .int w), (2, .int (nI (zAbo z w (k4 + 1)))), (3, .int (nI (k4 + 1)))]) (congrArg (fun q9 => ([(0, .ref o), (1, .int w), (2, .int q9), (3, .int (nI (k4 + 1)))] : List (Nat × Value))) (show (nI ((zAbo z w k4) + 0) : Int32) = nI (zAbo z w (k4 + 1)) from by first | (simp [zAbo, *]; done) | (simp [zAbo, *, nI_1]; done))) ?_
          exact ih4 (k4 + 1) (by omega) (by omega)
        · skip
          refine G.aload_n (pc := 27) cx dX10_aboardOf_27 rfl 0 rfl ?_
          refine G.iload_n (pc := 28) cx dX10_aboardOf_28 rfl 3 rfl ?_
          refine G.iconst (pc := 29) cx dX10_aboardOf_29 (v := 2) (by decide) ?_
          refine G.callV0 (pc := 30) (rest := [.int (nI (zAbo z w k4))]) (st1 := [.int (z (10 * k4 + 2)), .int (nI (zAbo z w k4))]) cx (c_X10_of l K sz o z r V k4 2 (by omega)) ok_X10_of dX10_aboardOf_30 wm_ml_X10_29 rfl mw_m rfl rfl (Nat.le_of_ble_eq_true rfl) ⟨Nat.le_of_ble_eq_true rfl, Nat.le_of_ble_eq_true rfl⟩ rfl ?_
          refine G.if_ne (pc := 33) cx dX10_aboardOf_33 (tgt := 40) (by decide) (fun cq33 => ?_) (fun cq33 => ?_)
          · skip
            refine G.iconst (pc := 40) cx dX10_aboardOf_40 (v := 0) (by decide) ?_
            refine G.iaddN (pc := 41) cx dX10_aboardOf_41 (zAbo z w k4) 0 ?_
            refine G.istore_n (pc := 42) cx dX10_aboardOf_42 rfl (by decide) rfl ?_
            refine G.iinc (pc := 43) cx dX10_aboardOf_43 (v := nI (k4 + 1)) (k := 3) rfl (nI_add k4 1) (by decide) rfl ?_
            refine G.goto (pc := 46) cx dX10_aboardOf_46 (tgt := 4) (by decide) ?_
            refine G.castL (lv' := [(0, .ref o), (1, .int w), (2, .int (nI ((zAbo z w k4) + 0))), (3, .int (nI (k4 + 1)))]) [2, 3, 1, 0] rfl ?_
            refine G.lv0 (lv2 := [(0, .ref o), (1, .int w), (2, .int (nI (zAbo z w (k4 + 1)))), (3, .int (nI (k4 + 1)))]) (congrArg (fun q9 => ([(0, .ref o), (1, .int w), (2, .int q9), (3, .int (nI (k4 + 1)))] : List (Nat × Value))) (show (nI ((zAbo z w k4) + 0) : Int32) = nI (zAbo z w (k4 + 1)) from by first | (simp [zAbo, *]; done) | (simp [zAbo, *, nI_1]; done))) ?_
            exact ih4 (k4 + 1) (by omega) (by omega)
          · skip
            refine G.iconst (pc := 36) cx dX10_aboardOf_36 (v := 1) (by decide) ?_
            refine G.goto (pc := 37) cx dX10_aboardOf_37 (tgt := 41) (by decide) ?_
            refine G.iaddN (pc := 41) cx dX10_aboardOf_41 (zAbo z w k4) 1 ?_
            refine G.istore_n (pc := 42) cx dX10_aboardOf_42 rfl (by decide) rfl ?_
            refine G.iinc (pc := 43) cx dX10_aboardOf_43 (v := nI (k4 + 1)) (k := 3) rfl (nI_add k4 1) (by decide) rfl ?_
            refine G.goto (pc := 46) cx dX10_aboardOf_46 (tgt := 4) (by decide) ?_
            refine G.castL (lv' := [(0, .ref o), (1, .int w), (2, .int (nI ((zAbo z w k4) + 1))), (3, .int (nI (k4 + 1)))]) [2, 3, 1, 0] rfl ?_
            refine G.lv0 (lv2 := [(0, .ref o), (1, .int w), (2, .int (nI (zAbo z w (k4 + 1)))), (3, .int (nI (k4 + 1)))]) (congrArg (fun q9 => ([(0, .ref o), (1, .int w), (2, .int q9), (3, .int (nI (k4 + 1)))] : List (Nat × Value))) (show (nI ((zAbo z w k4) + 1) : Int32) = nI (zAbo z w (k4 + 1)) from by first | (simp [zAbo, *]; done) | (simp [zAbo, *, nI_1]; done))) ?_
            exact ih4 (k4 + 1) (by omega) (by omega)
  refine G.castL (lv' := [(0, .ref o), (1, .int w), (2, .int 0), (3, .int 0)]) [2, 3, 1, 0] rfl ?_
  refine G.lv0 (lv2 := [(0, .ref o), (1, .int w), (2, .int (nI (zAbo z w 0))), (3, .int 0)]) (congrArg (fun q9 => ([(0, .ref o), (1, .int w), (2, .int q9), (3, .int 0)] : List (Nat × Value))) (show (0 : Int32) = nI (zAbo z w 0) from by rfl)) ?_
  refine G.lv0 (lv2 := [(0, .ref o), (1, .int w), (2, .int (nI (zAbo z w 0))), (3, .int (nI 0))]) (congrArg (fun q9 => ([(0, .ref o), (1, .int w), (2, .int (nI (zAbo z w 0))), (3, .int q9)] : List (Nat × Value))) (show (0 : Int32) = nI 0 from by rfl)) ?_
  exact L4_1 (N + 1) 0 (by omega) (by omega)
