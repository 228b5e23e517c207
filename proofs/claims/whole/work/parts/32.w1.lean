theorem cNum_s {T : Nat → Int32} {p k v : Nat} (hk3 : k ≤ 3) (hv : v < 10 ^ k) (h : nVal T p k = nI v) : (if cNumV T p k < 0 then 0 else cNumV T p k) * 10 + T (p + k) - 48 = cNumV T p (k + 1) := by
  have e : (if cNumV T p k < 0 then 0 else cNumV T p k) = nVal T p k := by
    unfold cNumV
    by_cases hk : k = 0
    · subst hk; rfl
    · rw [if_neg hk, if_neg]; rw [h]; exact Int32.not_lt.mpr (nI_pos' (Nat.lt_of_lt_of_le hv (Nat.le_trans (Nat.pow_le_pow_right (by decide) hk3) (by decide))))
  rw [e, Int32.mul_comm]
  unfold cNumV; rw [if_neg (by omega)]; rfl
set_option maxHeartbeats 4000000 in
set_option maxRecDepth 100000 in
theorem c_X7_at (l : Launch) (K : KT) (sz : Nat) (x : Nat) (z : Zt) (t : Zt) (h : Nat → Zt) (π : Nat → Nat) (f : Zt) (u : Zt) (g : Zt) (V : VW) (q : Nat) (n : Nat) (hL : g 1 = nI n) (hn : n ≤ 60) (hq : q ≤ 100) : Ct l K yX7_at cX7_at 2 (some .int) 0 [.ref (x + 189), .int (nI q)] (ww K x z t h π f u g V) sz (some (.int (cAt f n q))) (ww K x z t h π f u g V) sz 0 0 := by
  refine Ct.ofG (by decide) (Nat.le_of_ble_eq_true rfl) ?_
  intro p9 e9 s9 m9 a9 b9 t9 c9 cx hin9
  refine G.lv0 (lv2 := [(0, .ref (x + 189)), (1, .int (nI q))]) rfl ?_
  refine G.iload_n (pc := 0) cx dX7_at_0 rfl 1 rfl ?_
  refine G.if_ltN (pc := 1) cx q (by omega) dX7_at_1 (tgt := 30) (by decide) ?_
  refine G.iload_n (pc := 4) cx dX7_at_4 rfl 1 rfl ?_
  refine G.aload_n (pc := 5) cx dX7_at_5 rfl 0 rfl ?_
  refine G.getV (pc := 6) cx dX7_at_6 (T := TX7) 1 wm_fl_X7_20 inlX7 rfl (by decide) ww_t (congrArg (fun x => some (Value.int x)) (hL)) ?_
  refine G.icmp_geN (pc := 9) cx q n (by omega) (by omega) dX7_at_9 (tgt := 30) (by decide) (fun cq9 => ?_) (fun cq9 => ?_)
  · skip
    refine G.iconst (pc := 30) cx dX7_at_30 (v := (-1)) (by decide) ?_
    refine G.iret (pc := 31) cx rfl dX7_at_31 ?_ ?_ rfl
    · refine congrArg (fun x => some (Value.int x)) ?_
      (try clear hin9); (try clear cx); first | (simp [cAt, *]; done) | exact if_neg (Nat.not_lt.mpr cq9)
    · rfl
  · skip
    refine G.iload_n (pc := 12) cx dX7_at_12 rfl 1 rfl ?_
    refine G.aload_n (pc := 13) cx dX7_at_13 rfl 0 rfl ?_
    refine G.getV (pc := 14) cx dX7_at_14 (T := TX7) 0 wm_fl_X7_9 inlX7 rfl (by decide) ww_t rfl ?_
    refine G.alenV (pc := 17) cx dX7_at_17 0 rfl ww_tx (v := 60) rfl ?_
    refine G.icmp_geN (pc := 18) cx q 60 (by omega) (by omega) dX7_at_18 (tgt := 30) (by decide) (fun cq18 => ?_) (fun cq18 => ?_)
    · skip
      exact absurd cq18 (by omega)
    · skip
      refine G.aload_n (pc := 21) cx dX7_at_21 rfl 0 rfl ?_
      refine G.getV (pc := 22) cx dX7_at_22 (T := TX7) 0 wm_fl_X7_9 inlX7 rfl (by decide) ww_t rfl ?_
      refine G.iload_n (pc := 25) cx dX7_at_25 rfl 1 rfl ?_
      refine G.ialdV (pc := 26) cx dX7_at_26 ww_tx (j := q) rfl (by omega) (by decide) (cut_at (by omega)) ?_
      refine G.goto (pc := 27) cx dX7_at_27 (tgt := 31) (by decide) ?_
      refine G.iret (pc := 31) cx rfl dX7_at_31 ?_ ?_ rfl
      · refine congrArg (fun x => some (Value.int x)) ?_
        (try clear hin9); (try clear cx); first | (simp [cAt, *]; done) | exact if_neg (Nat.not_lt.mpr cq9)
      · rfl
set_option maxHeartbeats 4000000 in
set_option maxRecDepth 100000 in
theorem c_X7_append (l : Launch) (K : KT) (sz : Nat) (x : Nat) (z : Zt) (t : Zt) (h : Nat → Zt) (π : Nat → Nat) (f : Zt) (u : Zt) (g : Zt) (V : VW) (y : Int32) (n : Nat) (hL : g 1 = nI n) (hn : n ≤ 60) : Ct l K yX7_append cX7_append 2 (some .int) 1 [.ref (x + 189), .int y] (ww K x z t h π f u g V) sz (some (.int (cTypA n y))) (ww K x z t h π (if (32 ≤ y ∧ y ≤ 126) ∧ n < 60 then upd f n y else f) u (if (32 ≤ y ∧ y ≤ 126) ∧ n < 60 then upd g 1 (nI (n + 1)) else g) V) sz 0 0 := by
  refine Ct.ofG (by decide) (Nat.le_of_ble_eq_true rfl) ?_
  intro p9 e9 s9 m9 a9 b9 t9 c9 cx hin9
  refine G.lv0 (lv2 := [(0, .ref (x + 189)), (1, .int y)]) rfl ?_
  refine G.iload_n (pc := 0) cx dX7_append_0 rfl 1 rfl ?_
  refine G.bipush (pc := 1) cx dX7_append_1 (v := 32) (by decide) ?_
  refine G.bipush (pc := 3) cx dX7_append_3 (v := 126) (by decide) ?_
  refine G.callSN0 (pc := 5) (rest := []) (st1 := [.int (b2 (32 ≤ y ∧ y ≤ 126))]) cx (c_X9_within l K sz y 32 126 (ww K x z t h π f u g V)) ok_X9_within dX7_append_5 (by decide +kernel)  rfl (Nat.le_of_ble_eq_true rfl) ⟨Nat.le_of_ble_eq_true rfl, Nat.le_of_ble_eq_true rfl⟩ rfl ?_
  refine G.if_neB (pc := 8) cx dX7_append_8 (tgt := 14) (by decide) (fun cq8 => ?_) (fun cq8 => ?_)
  · skip
    refine G.aload_n (pc := 14) cx dX7_append_14 rfl 0 rfl ?_
    refine G.getV (pc := 15) cx dX7_append_15 (T := TX7) 1 wm_fl_X7_20 inlX7 rfl (by decide) ww_t (congrArg (fun x => some (Value.int x)) (hL)) ?_
    refine G.if_ltN (pc := 18) cx n (by omega) dX7_append_18 (tgt := 33) (by decide) ?_
    refine G.aload_n (pc := 21) cx dX7_append_21 rfl 0 rfl ?_
    refine G.getV (pc := 22) cx dX7_append_22 (T := TX7) 1 wm_fl_X7_20 inlX7 rfl (by decide) ww_t (congrArg (fun x => some (Value.int x)) (hL)) ?_
    refine G.aload_n (pc := 25) cx dX7_append_25 rfl 0 rfl ?_
    refine G.getV (pc := 26) cx dX7_append_26 (T := TX7) 0 wm_fl_X7_9 inlX7 rfl (by decide) ww_t rfl ?_
    refine G.alenV (pc := 29) cx dX7_append_29 0 rfl ww_tx (v := 60) rfl ?_
    refine G.icmp_ltN (pc := 30) cx n 60 (by omega) (by omega) dX7_append_30 (tgt := 36) (by decide) (fun cq30 => ?_) (fun cq30 => ?_)
    · skip
      refine G.aload_n (pc := 36) cx dX7_append_36 rfl 0 rfl ?_
      refine G.getV (pc := 37) cx dX7_append_37 (T := TX7) 0 wm_fl_X7_9 inlX7 rfl (by decide) ww_t rfl ?_
      refine G.aload_n (pc := 40) cx dX7_append_40 rfl 0 rfl ?_
      refine G.getV (pc := 41) cx dX7_append_41 (T := TX7) 1 wm_fl_X7_20 inlX7 rfl (by decide) ww_t (congrArg (fun x => some (Value.int x)) (hL)) ?_
      refine G.iload_n (pc := 44) cx dX7_append_44 rfl 1 rfl ?_
      refine G.iastC (pc := 45) cx dX7_append_45 ww_tx (j := n) rfl (by omega) (by decide) wwTx ?_
      refine G.aload_n (pc := 46) cx dX7_append_46 rfl 0 rfl ?_
      refine G.dup (pc := 47) cx dX7_append_47 rfl ?_
      refine G.getV (pc := 48) cx dX7_append_48 (T := TX7) 1 wm_fl_X7_20 inlX7 rfl (by decide) ww_t (congrArg (fun x => some (Value.int x)) (hL)) ?_
      refine G.iconst (pc := 51) cx dX7_append_51 (v := 1) (by decide) ?_
      refine G.iaddN (pc := 52) cx dX7_append_52 n 1 ?_
      refine G.putLe (pc := 53) cx dX7_append_53 wm_fl_X7_20 ?_
      refine G.aload_n (pc := 56) cx dX7_append_56 rfl 0 rfl ?_
      refine G.getV (pc := 57) cx dX7_append_57 (T := TX7) 1 wm_fl_X7_20 inlX7 rfl (by decide) ww_t (congrArg (fun x => some (Value.int x)) (upd_s g 1 (nI (n + 1)))) ?_
      refine G.iret (pc := 60) cx rfl dX7_append_60 ?_ ?_ rfl
      · refine congrArg (fun x => some (Value.int x)) ?_
        (try clear hin9); (try clear cx); first | (simp [cTypA, *]; done) | (simp [cTypA, *]; omega)
      · show _ = _
        (try clear hin9); (try clear cx); first | (simp [*]; done) | (simp_all; done)
    · skip
      refine G.ldc (pc := 33) cx dX7_append_33 (v := (-1000003)) wm_ct_X7_24 ?_
      refine G.iret (pc := 35) cx rfl dX7_append_35 ?_ ?_ rfl
      · refine congrArg (fun x => some (Value.int x)) ?_
        (try clear hin9); (try clear cx); first | (simp [cTypA, *]; done) | (simp [cTypA, *]; omega)
      · show _ = _
        (try clear hin9); (try clear cx); rw [if_neg (by omega), if_neg (by omega)]
  · skip
    refine G.ldc (pc := 11) cx dX7_append_11 (v := (-1000001)) wm_ct_X7_19 ?_
    refine G.iret (pc := 13) cx rfl dX7_append_13 ?_ ?_ rfl
    · refine congrArg (fun x => some (Value.int x)) ?_
      (try clear hin9); (try clear cx); first | (simp [cTypA, *]; done) | (simp [cTypA, *]; omega)
    · show _ = _
      (try clear hin9); (try clear cx); first | (simp [*]; done) | (simp_all; done)
set_option maxHeartbeats 4000000 in
set_option maxRecDepth 100000 in
theorem c_X7_empty (l : Launch) (K : KT) (sz : Nat) (x : Nat) (z : Zt) (t : Zt) (h : Nat → Zt) (π : Nat → Nat) (f : Zt) (u : Zt) (g : Zt) (V : VW)  : Ct l K yX7_empty cX7_empty 2 (some .int) 0 [.ref (x + 189)] (ww K x z t h π f u g V) sz (some (.int (g 1))) (ww K x z t h π f u (upd g 1 0) V) sz 0 0 := by
  refine Ct.ofG (by decide) (Nat.le_of_ble_eq_true rfl) ?_
  intro p9 e9 s9 m9 a9 b9 t9 c9 cx hin9
  refine G.lv0 (lv2 := [(0, .ref (x + 189))]) rfl ?_
  refine G.aload_n (pc := 0) cx dX7_empty_0 rfl 0 rfl ?_
  refine G.getV (pc := 1) cx dX7_empty_1 (T := TX7) 1 wm_fl_X7_20 inlX7 rfl (by decide) ww_t rfl ?_
  refine G.istore_n (pc := 4) cx dX7_empty_4 rfl (by decide) rfl ?_
  refine G.aload_n (pc := 5) cx dX7_empty_5 rfl 1 rfl ?_
  refine G.iconst (pc := 6) cx dX7_empty_6 (v := 0) (by decide) ?_
  refine G.putLe (pc := 7) cx dX7_empty_7 wm_fl_X7_20 ?_
  refine G.iload_n (pc := 10) cx dX7_empty_10 rfl 0 rfl ?_
  refine G.iret (pc := 11) cx rfl dX7_empty_11 ?_ ?_ rfl
  · rfl
  · rfl
set_option maxHeartbeats 4000000 in
set_option maxRecDepth 100000 in
theorem c_X4_numbersOf (l : Launch) (K : KT) (sz : Nat) (q : Int32) (V : VW)  : Ct l K yX4_numbersOf cX4_numbersOf 1 (some .int) 0 [.int q] V sz (some (.int (tNum q))) V sz 0 0 := by
  refine Ct.ofG (by decide) (Nat.le_of_ble_eq_true rfl) ?_
  intro p9 e9 s9 m9 a9 b9 t9 c9 cx hin9
  refine G.lv0 (lv2 := [(0, .int q)]) rfl ?_
  refine G.iload_n (pc := 0) cx dX4_numbersOf_0 rfl 0 rfl ?_
  by_cases sw1_97 : q = 97
  · subst sw1_97
    refine G.tableIn (pc := 1) cx dX4_numbersOf_1 (off := 107) (tgt := 108) (by decide) (by decide) (by decide) (by decide) ?_
    refine G.iconst (pc := 108) cx dX4_numbersOf_108 (v := 2) (by decide) ?_
    refine G.iret (pc := 109) cx rfl dX4_numbersOf_109 ?_ ?_ rfl
    · refine congrArg (fun x => some (Value.int x)) ?_
      (try clear hin9); (try clear cx); first | (simp [tNum]; done) | (simp [tNum, *]; done)
    · rfl
  by_cases sw1_98 : q = 98
  · subst sw1_98
    refine G.tableIn (pc := 1) cx dX4_numbersOf_1 (off := 109) (tgt := 110) (by decide) (by decide) (by decide) (by decide) ?_
    refine G.iconst (pc := 110) cx dX4_numbersOf_110 (v := 3) (by decide) ?_
    refine G.iret (pc := 111) cx rfl dX4_numbersOf_111 ?_ ?_ rfl
    · refine congrArg (fun x => some (Value.int x)) ?_
      (try clear hin9); (try clear cx); first | (simp [tNum]; done) | (simp [tNum, *]; done)
    · rfl
  by_cases sw1_100 : q = 100
  · subst sw1_100
    refine G.tableIn (pc := 1) cx dX4_numbersOf_1 (off := 105) (tgt := 106) (by decide) (by decide) (by decide) (by decide) ?_
    refine G.iconst (pc := 106) cx dX4_numbersOf_106 (v := 1) (by decide) ?_
    refine G.iret (pc := 107) cx rfl dX4_numbersOf_107 ?_ ?_ rfl
    · refine congrArg (fun x => some (Value.int x)) ?_
      (try clear hin9); (try clear cx); first | (simp [tNum]; done) | (simp [tNum, *]; done)
    · rfl
  by_cases sw1_101 : q = 101
  · subst sw1_101
    refine G.tableIn (pc := 1) cx dX4_numbersOf_1 (off := 103) (tgt := 104) (by decide) (by decide) (by decide) (by decide) ?_
    refine G.iconst (pc := 104) cx dX4_numbersOf_104 (v := 0) (by decide) ?_
    refine G.iret (pc := 105) cx rfl dX4_numbersOf_105 ?_ ?_ rfl
    · refine congrArg (fun x => some (Value.int x)) ?_
      (try clear hin9); (try clear cx); first | (simp [tNum]; done) | (simp [tNum, *]; done)
    · rfl
  by_cases sw1_102 : q = 102
  · subst sw1_102
    refine G.tableIn (pc := 1) cx dX4_numbersOf_1 (off := 107) (tgt := 108) (by decide) (by decide) (by decide) (by decide) ?_
    refine G.iconst (pc := 108) cx dX4_numbersOf_108 (v := 2) (by decide) ?_
    refine G.iret (pc := 109) cx rfl dX4_numbersOf_109 ?_ ?_ rfl
    · refine congrArg (fun x => some (Value.int x)) ?_
      (try clear hin9); (try clear cx); first | (simp [tNum]; done) | (simp [tNum, *]; done)
    · rfl
  by_cases sw1_104 : q = 104
  · subst sw1_104
    refine G.tableIn (pc := 1) cx dX4_numbersOf_1 (off := 107) (tgt := 108) (by decide) (by decide) (by decide) (by decide) ?_
    refine G.iconst (pc := 108) cx dX4_numbersOf_108 (v := 2) (by decide) ?_
    refine G.iret (pc := 109) cx rfl dX4_numbersOf_109 ?_ ?_ rfl
    · refine congrArg (fun x => some (Value.int x)) ?_
      (try clear hin9); (try clear cx); first | (simp [tNum]; done) | (simp [tNum, *]; done)
    · rfl
  by_cases sw1_108 : q = 108
  · subst sw1_108
    refine G.tableIn (pc := 1) cx dX4_numbersOf_1 (off := 105) (tgt := 106) (by decide) (by decide) (by decide) (by decide) ?_
    refine G.iconst (pc := 106) cx dX4_numbersOf_106 (v := 1) (by decide) ?_
    refine G.iret (pc := 107) cx rfl dX4_numbersOf_107 ?_ ?_ rfl
    · refine congrArg (fun x => some (Value.int x)) ?_
      (try clear hin9); (try clear cx); first | (simp [tNum]; done) | (simp [tNum, *]; done)
    · rfl
  by_cases sw1_111 : q = 111
  · subst sw1_111
    refine G.tableIn (pc := 1) cx dX4_numbersOf_1 (off := 103) (tgt := 104) (by decide) (by decide) (by decide) (by decide) ?_
    refine G.iconst (pc := 104) cx dX4_numbersOf_104 (v := 0) (by decide) ?_
    refine G.iret (pc := 105) cx rfl dX4_numbersOf_105 ?_ ?_ rfl
    · refine congrArg (fun x => some (Value.int x)) ?_
      (try clear hin9); (try clear cx); first | (simp [tNum]; done) | (simp [tNum, *]; done)
    · rfl
  by_cases sw1_112 : q = 112
  · subst sw1_112
    refine G.tableIn (pc := 1) cx dX4_numbersOf_1 (off := 103) (tgt := 104) (by decide) (by decide) (by decide) (by decide) ?_
    refine G.iconst (pc := 104) cx dX4_numbersOf_104 (v := 0) (by decide) ?_
    refine G.iret (pc := 105) cx rfl dX4_numbersOf_105 ?_ ?_ rfl
    · refine congrArg (fun x => some (Value.int x)) ?_
      (try clear hin9); (try clear cx); first | (simp [tNum]; done) | (simp [tNum, *]; done)
    · rfl
  by_cases sw1_114 : q = 114
  · subst sw1_114
    refine G.tableIn (pc := 1) cx dX4_numbersOf_1 (off := 107) (tgt := 108) (by decide) (by decide) (by decide) (by decide) ?_
    refine G.iconst (pc := 108) cx dX4_numbersOf_108 (v := 2) (by decide) ?_
    refine G.iret (pc := 109) cx rfl dX4_numbersOf_109 ?_ ?_ rfl
    · refine congrArg (fun x => some (Value.int x)) ?_
      (try clear hin9); (try clear cx); first | (simp [tNum]; done) | (simp [tNum, *]; done)
    · rfl
  by_cases sw1_118 : q = 118
  · subst sw1_118
    refine G.tableIn (pc := 1) cx dX4_numbersOf_1 (off := 109) (tgt := 110) (by decide) (by decide) (by decide) (by decide) ?_
    refine G.iconst (pc := 110) cx dX4_numbersOf_110 (v := 3) (by decide) ?_
    refine G.iret (pc := 111) cx rfl dX4_numbersOf_111 ?_ ?_ rfl
    · refine congrArg (fun x => some (Value.int x)) ?_
      (try clear hin9); (try clear cx); first | (simp [tNum]; done) | (simp [tNum, *]; done)
    · rfl
  refine G.tableDef (pc := 1) cx dX4_numbersOf_1 (tgt := 112) ?_ (by decide) ?_
  · have g0 := sw_ne sw1_97 (by decide : (97 : Int) = (97 : Int32).toInt); have g1 := sw_ne sw1_98 (by decide : (98 : Int) = (98 : Int32).toInt); have g2 := sw_ne sw1_100 (by decide : (100 : Int) = (100 : Int32).toInt); have g3 := sw_ne sw1_101 (by decide : (101 : Int) = (101 : Int32).toInt); have g4 := sw_ne sw1_102 (by decide : (102 : Int) = (102 : Int32).toInt); have g5 := sw_ne sw1_104 (by decide : (104 : Int) = (104 : Int32).toInt); have g6 := sw_ne sw1_108 (by decide : (108 : Int) = (108 : Int32).toInt); have g7 := sw_ne sw1_111 (by decide : (111 : Int) = (111 : Int32).toInt); have g8 := sw_ne sw1_112 (by decide : (112 : Int) = (112 : Int32).toInt); have g9 := sw_ne sw1_114 (by decide : (114 : Int) = (114 : Int32).toInt); have g10 := sw_ne sw1_118 (by decide : (118 : Int) = (118 : Int32).toInt)
    rcases (show q.toInt < 97 ∨ 118 < q.toInt ∨ q.toInt = 99 ∨ q.toInt = 103 ∨ q.toInt = 105 ∨ q.toInt = 106 ∨ q.toInt = 107 ∨ q.toInt = 109 ∨ q.toInt = 110 ∨ q.toInt = 113 ∨ q.toInt = 115 ∨ q.toInt = 116 ∨ q.toInt = 117 by omega) with h | h | h | h | h | h | h | h | h | h | h | h | h
    · exact Or.inl h
    · exact Or.inr (Or.inl h)
    · exact Or.inr (Or.inr (by rw [h]; decide))
    · exact Or.inr (Or.inr (by rw [h]; decide))
    · exact Or.inr (Or.inr (by rw [h]; decide))
    · exact Or.inr (Or.inr (by rw [h]; decide))
    · exact Or.inr (Or.inr (by rw [h]; decide))
    · exact Or.inr (Or.inr (by rw [h]; decide))
    · exact Or.inr (Or.inr (by rw [h]; decide))
    · exact Or.inr (Or.inr (by rw [h]; decide))
    · exact Or.inr (Or.inr (by rw [h]; decide))
    · exact Or.inr (Or.inr (by rw [h]; decide))
    · exact Or.inr (Or.inr (by rw [h]; decide))
  refine G.iconst (pc := 112) cx dX4_numbersOf_112 (v := (-1)) (by decide) ?_
  refine G.iret (pc := 113) cx rfl dX4_numbersOf_113 ?_ ?_ rfl
  · refine congrArg (fun x => some (Value.int x)) ?_
    (try clear hin9); (try clear cx); first | (simp [tNum]; done) | (simp [tNum, *]; done)
  · rfl
set_option maxHeartbeats 4000000 in
set_option maxRecDepth 100000 in
theorem c_X4_readSign (l : Launch) (K : KT) (sz : Nat) (x : Nat) (z : Zt) (t : Zt) (h : Nat → Zt) (π : Nat → Nat) (f : Zt) (u : Zt) (g : Zt) (V : VW) (y : Int32) (n : Nat) (p : Nat) (hL : g 1 = nI n) (hn : n ≤ 60) (hp : g 7 = nI p) (hq : p ≤ 99) : Ct l K yX4_readSign cX4_readSign 3 (some .boolean) 1 [.ref (x + 192), .ref (x + 189), .int y] (ww K x z t h π f u g V) sz (some (.int (b2 (cAt f n p = y)))) (ww K x z t h π f u (if cAt f n p = y then upd g 7 (nI (p + 1)) else g) V) sz 0 0 := by
  refine Ct.ofG (by decide) (Nat.le_of_ble_eq_true rfl) ?_
  intro p9 e9 s9 m9 a9 b9 t9 c9 cx hin9
  refine G.lv0 (lv2 := [(0, .ref (x + 192)), (1, .ref (x + 189)), (2, .int y)]) rfl ?_
  refine G.aload_n (pc := 0) cx dX4_readSign_0 rfl 1 rfl ?_
  refine G.aload_n (pc := 1) cx dX4_readSign_1 rfl 0 rfl ?_
  refine G.getV (pc := 2) cx dX4_readSign_2 (T := TX4) 2 wm_fl_X4_15 inlX4 rfl (by decide) ww_o (congrArg (fun x => some (Value.int x)) (hp)) ?_
  refine G.callV0 (pc := 5) (rest := []) (st1 := [.int (cAt f n p)]) cx (c_X7_at l K sz x z t h π f u g V p n (by assumption) (by omega) (by omega)) ok_X7_at dX4_readSign_5 wm_ml_X4_19 rfl ww_t rfl rfl (Nat.le_of_ble_eq_true rfl) ⟨Nat.le_of_ble_eq_true rfl, Nat.le_of_ble_eq_true rfl⟩ rfl ?_
  refine G.iload_n (pc := 8) cx dX4_readSign_8 rfl 2 rfl ?_
  refine G.icmp_eq (pc := 9) cx dX4_readSign_9 (tgt := 14) (by decide) (fun cq9 => ?_) (fun cq9 => ?_)
  · skip
    refine G.aload_n (pc := 14) cx dX4_readSign_14 rfl 0 rfl ?_
    refine G.dup (pc := 15) cx dX4_readSign_15 rfl ?_
    refine G.getV (pc := 16) cx dX4_readSign_16 (T := TX4) 2 wm_fl_X4_15 inlX4 rfl (by decide) ww_o (congrArg (fun x => some (Value.int x)) (hp)) ?_
    refine G.iconst (pc := 19) cx dX4_readSign_19 (v := 1) (by decide) ?_
    refine G.iaddN (pc := 20) cx dX4_readSign_20 p 1 ?_
    refine G.putPl (pc := 21) cx dX4_readSign_21 wm_fl_X4_15 ?_
    refine G.iconst (pc := 24) cx dX4_readSign_24 (v := 1) (by decide) ?_
    refine G.zret (pc := 25) cx rfl dX4_readSign_25 rfl ?_ ?_ rfl
    · refine congrArg (fun x => some (Value.int x)) ?_
      (try clear hin9); (try clear cx); first | rfl | (refine b2_t ?_; grind) | (refine b2_f ?_; grind) | (refine (b2_t ?_).symm; grind) | (refine (b2_f ?_).symm; grind) | (simp [*]; done) | (simp_all; done) | grind
    · show _ = _
      (try clear hin9); (try clear cx); simp [*]
  · skip
    refine G.iconst (pc := 12) cx dX4_readSign_12 (v := 0) (by decide) ?_
    refine G.zret (pc := 13) cx rfl dX4_readSign_13 rfl ?_ ?_ rfl
    · refine congrArg (fun x => some (Value.int x)) ?_
      (try clear hin9); (try clear cx); first | rfl | (refine b2_t ?_; grind) | (refine b2_f ?_; grind) | (refine (b2_t ?_).symm; grind) | (refine (b2_f ?_).symm; grind) | (simp [*]; done) | (simp_all; done) | grind
    · show _ = _
      (try clear hin9); (try clear cx); simp [*]
set_option maxHeartbeats 4000000 in
set_option maxRecDepth 100000 in
theorem c_X4_readNumber (l : Launch) (K : KT) (sz : Nat) (x : Nat) (z : Zt) (t : Zt) (h : Nat → Zt) (π : Nat → Nat) (f : Zt) (u : Zt) (g : Zt) (V : VW) (n : Nat) (p : Nat) (hL : g 1 = nI n) (hn : n ≤ 60) (hp : g 7 = nI p) (hq : p ≤ 90) : Ct l K yX4_readNumber cX4_readNumber 4 (some .int) 1 [.ref (x + 192), .ref (x + 189)] (ww K x z t h π f u g V) sz (some (.int (cNumV (cAt f n) p (nDg (cAt f n) p 3 0)))) (ww K x z t h π f u (upd g 7 (nI (p + nDg (cAt f n) p 3 0))) V) sz 0 0 := by
  refine Ct.ofG (by decide) (Nat.le_of_ble_eq_true rfl) ?_
  intro p9 e9 s9 m9 a9 b9 t9 c9 cx hin9
  refine G.lv0 (lv2 := [(0, .ref (x + 192)), (1, .ref (x + 189))]) rfl ?_
  have hnd := nDg_le (cAt f n) p 3 0
  refine G.iconst (pc := 0) cx dX4_readNumber_0 (v := (-1)) (by decide) ?_
  refine G.istore_n (pc := 1) cx dX4_readNumber_1 rfl (by decide) rfl ?_
  refine G.iconst (pc := 2) cx dX4_readNumber_2 (v := 0) (by decide) ?_
  refine G.istore_n (pc := 3) cx dX4_readNumber_3 rfl (by decide) rfl ?_
  have L4_1 : ∀ (fz k4 : Nat), 3 - k4 < fz → k4 ≤ 3 → (nDg (cAt f n) p (3 - k4) k4 = nDg (cAt f n) p 3 0) → (∃ v, v < 10 ^ k4 ∧ nVal (cAt f n) p k4 = nI v) → G K p9 l e9 (rmL 1 0 0) s9 m9 a9 b9 t9 c9 (MQ b9 (QCt K (some (.int (cNumV (cAt f n) p (nDg (cAt f n) p 3 0)))) (ww K x z t h π f u (upd g 7 (nI (p + nDg (cAt f n) p 3 0))) V) sz) a9 s9 0 0 (kA K)) 4 (ww K x z t h π f u (upd g 7 (nI (p + k4))) V) sz 0 0 4 [(0, .ref (x + 192)), (1, .ref (x + 189)), (2, .int (cNumV (cAt f n) p k4)), (3, .int (nI k4))] [] := by
    intro fz
    induction fz with
    | zero => intro k4 h9; omega
    | succ fz ih4 =>
      intro k4 h94 h84 hK hV
      refine G.iload_n (pc := 4) cx dX4_readNumber_4 rfl 3 rfl ?_
      refine G.iconst (pc := 5) cx dX4_readNumber_5 (v := 3) (by decide) ?_
      refine G.icmp_geN (pc := 6) cx k4 3 (by omega) (by omega) dX4_readNumber_6 (tgt := 64) (by decide) (fun cq6 => ?_) (fun cq6 => ?_)
      · skip
        have ex4 : k4 = 3 := by omega
        try rw [ex4]
        refine G.iload_n (pc := 64) cx dX4_readNumber_64 rfl 2 rfl ?_
        refine G.iret (pc := 65) cx rfl dX4_readNumber_65 ?_ ?_ rfl
        · refine congrArg (fun x => some (Value.int x)) ?_
          (try clear L4_1); (try clear ih4); (try clear hin9); (try clear cx); first | (rw [← hK, ex4]; rfl) | (rw [← hK, nDg_e (cAt f n) p (by omega) cq24])
        · show _ = _
          (try clear L4_1); (try clear ih4); (try clear hin9); (try clear cx); first | (rw [← hK, ex4]; rfl) | (rw [← hK, nDg_e (cAt f n) p (by omega) cq24])
      · skip
        refine G.aload_n (pc := 9) cx dX4_readNumber_9 rfl 1 rfl ?_
        refine G.aload_n (pc := 10) cx dX4_readNumber_10 rfl 0 rfl ?_
        refine G.getV (pc := 11) cx dX4_readNumber_11 (T := TX4) 2 wm_fl_X4_15 inlX4 rfl (by decide) ww_o (congrArg (fun x => some (Value.int x)) (upd_s g 7 (nI (p + k4)))) ?_
        refine G.callV0 (pc := 14) (rest := []) (st1 := [.int (cAt f n (p + k4))]) cx (c_X7_at l K sz x z t h π f u (upd g 7 (nI (p + k4))) V (p + k4) n (by assumption) (by omega) (by omega)) ok_X7_at dX4_readNumber_14 wm_ml_X4_19 rfl ww_t rfl rfl (Nat.le_of_ble_eq_true rfl) ⟨Nat.le_of_ble_eq_true rfl, Nat.le_of_ble_eq_true rfl⟩ rfl ?_
        refine G.bipush (pc := 17) cx dX4_readNumber_17 (v := 48) (by decide) ?_
        refine G.bipush (pc := 19) cx dX4_readNumber_19 (v := 57) (by decide) ?_
        refine G.callSN0 (pc := 21) (rest := []) (st1 := [.int (b2 (48 ≤ (cAt f n (p + k4)) ∧ (cAt f n (p + k4)) ≤ 57))]) cx (c_X9_within l K sz (cAt f n (p + k4)) 48 57 (ww K x z t h π f u (upd g 7 (nI (p + k4))) V)) ok_X9_within dX4_readNumber_21 (by decide +kernel)  rfl (Nat.le_of_ble_eq_true rfl) ⟨Nat.le_of_ble_eq_true rfl, Nat.le_of_ble_eq_true rfl⟩ rfl ?_
        refine G.if_eqB (pc := 24) cx dX4_readNumber_24 (tgt := 64) (by decide) (fun cq24 => ?_) (fun cq24 => ?_)
        · skip
          refine G.iload_n (pc := 64) cx dX4_readNumber_64 rfl 2 rfl ?_
          refine G.iret (pc := 65) cx rfl dX4_readNumber_65 ?_ ?_ rfl
          · refine congrArg (fun x => some (Value.int x)) ?_
            (try clear L4_1); (try clear ih4); (try clear hin9); (try clear cx); first | (rw [← hK, ex4]; rfl) | (rw [← hK, nDg_e (cAt f n) p (by omega) cq24])
          · show _ = _
            (try clear L4_1); (try clear ih4); (try clear hin9); (try clear cx); first | (rw [← hK, ex4]; rfl) | (rw [← hK, nDg_e (cAt f n) p (by omega) cq24])
        · skip
          obtain ⟨v9, hv9, hv8⟩ := hV
          refine G.iload_n (pc := 27) cx dX4_readNumber_27 rfl 2 rfl ?_
          refine G.iconst (pc := 28) cx dX4_readNumber_28 (v := 0) (by decide) ?_
          refine G.mmax (pc := 29) cx dX4_readNumber_29 wm_ml_X4_43 ⟨Nat.le_of_ble_eq_true rfl, Nat.le_of_ble_eq_true rfl⟩ (Nat.le_of_ble_eq_true rfl) ?_
          refine G.bipush (pc := 32) cx dX4_readNumber_32 (v := 10) (by decide) ?_
          refine G.imul (pc := 34) cx dX4_readNumber_34 ?_
          refine G.aload_n (pc := 35) cx dX4_readNumber_35 rfl 1 rfl ?_
          refine G.aload_n (pc := 36) cx dX4_readNumber_36 rfl 0 rfl ?_
          refine G.getV (pc := 37) cx dX4_readNumber_37 (T := TX4) 2 wm_fl_X4_15 inlX4 rfl (by decide) ww_o (congrArg (fun x => some (Value.int x)) (upd_s g 7 (nI (p + k4)))) ?_
          refine G.callV0 (pc := 40) (rest := [.int ((if (cNumV (cAt f n) p k4) < 0 then 0 else (cNumV (cAt f n) p k4)) * 10)]) (st1 := [.int (cAt f n (p + k4)), .int ((if (cNumV (cAt f n) p k4) < 0 then 0 else (cNumV (cAt f n) p k4)) * 10)]) cx (c_X7_at l K sz x z t h π f u (upd g 7 (nI (p + k4))) V (p + k4) n (by assumption) (by omega) (by omega)) ok_X7_at dX4_readNumber_40 wm_ml_X4_19 rfl ww_t rfl rfl (Nat.le_of_ble_eq_true rfl) ⟨Nat.le_of_ble_eq_true rfl, Nat.le_of_ble_eq_true rfl⟩ rfl ?_
          refine G.iadd (pc := 43) cx dX4_readNumber_43 ?_
          refine G.bipush (pc := 44) cx dX4_readNumber_44 (v := 48) (by decide) ?_
          refine G.isub (pc := 46) cx dX4_readNumber_46 ?_
          refine G.istore_n (pc := 47) cx dX4_readNumber_47 rfl (by decide) rfl ?_
          refine G.aload_n (pc := 48) cx dX4_readNumber_48 rfl 1 rfl ?_
          refine G.dup (pc := 49) cx dX4_readNumber_49 rfl ?_
          refine G.getV (pc := 50) cx dX4_readNumber_50 (T := TX4) 2 wm_fl_X4_15 inlX4 rfl (by decide) ww_o (congrArg (fun x => some (Value.int x)) (upd_s g 7 (nI (p + k4)))) ?_
          refine G.iconst (pc := 53) cx dX4_readNumber_53 (v := 1) (by decide) ?_
          refine G.iaddN (pc := 54) cx dX4_readNumber_54 (p + k4) 1 ?_
          refine G.putPl (pc := 55) cx dX4_readNumber_55 wm_fl_X4_15 ?_
          refine G.iinc (pc := 58) cx dX4_readNumber_58 (v := nI (k4 + 1)) (k := 3) rfl (nI_add k4 1) (by decide) rfl ?_
          refine G.goto (pc := 61) cx dX4_readNumber_61 (tgt := 4) (by decide) ?_
          refine G.cast (V' := (ww K x z t h π f u (upd g 7 (nI (p + (k4 + 1)))) V)) (congrArg (fun q9 => ww K x z t h π f u q9 V) (show (upd (upd g 7 (nI (p + k4))) 7 (nI ((p + k4) + 1))) = (upd g 7 (nI (p + (k4 + 1)))) from by first | exact upd_upd _ _ _ _ | exact cNum_s (by omega) hv9 hv8)) ?_
          refine G.castL (lv' := [(0, .ref (x + 192)), (1, .ref (x + 189)), (2, .int ((((if (cNumV (cAt f n) p k4) < 0 then 0 else (cNumV (cAt f n) p k4)) * 10) + (cAt f n (p + k4))) - 48)), (3, .int (nI (k4 + 1)))]) [2, 3, 1, 0] rfl ?_
          refine G.lv0 (lv2 := [(0, .ref (x + 192)), (1, .ref (x + 189)), (2, .int (cNumV (cAt f n) p (k4 + 1))), (3, .int (nI (k4 + 1)))]) (congrArg (fun q9 => ([(0, .ref (x + 192)), (1, .ref (x + 189)), (2, .int q9), (3, .int (nI (k4 + 1)))] : List (Nat × Value))) (show ((((if (cNumV (cAt f n) p k4) < 0 then 0 else (cNumV (cAt f n) p k4)) * 10) + (cAt f n (p + k4))) - 48 : Int32) = cNumV (cAt f n) p (k4 + 1) from by first | exact upd_upd _ _ _ _ | exact cNum_s (by omega) hv9 hv8)) ?_
          exact ih4 (k4 + 1) (by omega) (by omega) (by first | exact (nDg_s (cAt f n) p (by omega) cq24).symm.trans hK | exact nVal_s (by omega) hv9 hv8 cq24) (by first | exact (nDg_s (cAt f n) p (by omega) cq24).symm.trans hK | exact nVal_s (by omega) hv9 hv8 cq24)
  refine G.cast (V' := (ww K x z t h π f u (upd g 7 (nI (p + 0))) V)) (congrArg (fun q9 => ww K x z t h π f u q9 V) (show g = (upd g 7 (nI (p + 0))) from by first | rfl | exact (upd_id hp).symm)) ?_
  refine G.castL (lv' := [(0, .ref (x + 192)), (1, .ref (x + 189)), (2, .int (-1)), (3, .int 0)]) [2, 3, 1, 0] rfl ?_
  refine G.lv0 (lv2 := [(0, .ref (x + 192)), (1, .ref (x + 189)), (2, .int (cNumV (cAt f n) p 0)), (3, .int 0)]) (congrArg (fun q9 => ([(0, .ref (x + 192)), (1, .ref (x + 189)), (2, .int q9), (3, .int 0)] : List (Nat × Value))) (show ((-1) : Int32) = cNumV (cAt f n) p 0 from by first | rfl | exact (upd_id hp).symm)) ?_
  refine G.lv0 (lv2 := [(0, .ref (x + 192)), (1, .ref (x + 189)), (2, .int (cNumV (cAt f n) p 0)), (3, .int (nI 0))]) (congrArg (fun q9 => ([(0, .ref (x + 192)), (1, .ref (x + 189)), (2, .int (cNumV (cAt f n) p 0)), (3, .int q9)] : List (Nat × Value))) (show (0 : Int32) = nI 0 from by first | rfl | exact (upd_id hp).symm)) ?_
  exact L4_1 (3 + 1) 0 (by omega) (by omega) (by first | rfl | exact ⟨0, by decide, rfl⟩) (by first | rfl | exact ⟨0, by decide, rfl⟩)
set_option maxHeartbeats 4000000 in
set_option maxRecDepth 100000 in
theorem c_X4_number (l : Launch) (K : KT) (sz : Nat) (x : Nat) (z : Zt) (t : Zt) (h : Nat → Zt) (π : Nat → Nat) (f : Zt) (u : Zt) (g : Zt) (V : VW) (k : Nat) (hk : k < 3) : Ct l K yX4_number cX4_number 2 (some .int) 0 [.ref (x + 192), .int (nI k)] (ww K x z t h π f u g V) sz (some (.int (u k))) (ww K x z t h π f u g V) sz 0 0 := by
  refine Ct.ofG (by decide) (Nat.le_of_ble_eq_true rfl) ?_
  intro p9 e9 s9 m9 a9 b9 t9 c9 cx hin9
  refine G.lv0 (lv2 := [(0, .ref (x + 192)), (1, .int (nI k))]) rfl ?_
  refine G.iload_n (pc := 0) cx dX4_number_0 rfl 1 rfl ?_
  refine G.if_ltN (pc := 1) cx k (by omega) dX4_number_1 (tgt := 22) (by decide) ?_
  refine G.iload_n (pc := 4) cx dX4_number_4 rfl 1 rfl ?_
  refine G.aload_n (pc := 5) cx dX4_number_5 rfl 0 rfl ?_
  refine G.getV (pc := 6) cx dX4_number_6 (T := TX4) 0 wm_fl_X4_9 inlX4 rfl (by decide) ww_o rfl ?_
  refine G.alenV (pc := 9) cx dX4_number_9 0 rfl ww_nu (v := 3) rfl ?_
  refine G.icmp_geN (pc := 10) cx k 3 (by omega) (by omega) dX4_number_10 (tgt := 22) (by decide) (fun cq10 => ?_) (fun cq10 => ?_)
  · skip
    exact absurd cq10 (by omega)
  · skip
    refine G.aload_n (pc := 13) cx dX4_number_13 rfl 0 rfl ?_
    refine G.getV (pc := 14) cx dX4_number_14 (T := TX4) 0 wm_fl_X4_9 inlX4 rfl (by decide) ww_o rfl ?_
    refine G.iload_n (pc := 17) cx dX4_number_17 rfl 1 rfl ?_
    refine G.ialdV (pc := 18) cx dX4_number_18 ww_nu (j := k) rfl (by omega) (by decide) (cut_at (by omega)) ?_
    refine G.goto (pc := 19) cx dX4_number_19 (tgt := 23) (by decide) ?_
    refine G.iret (pc := 23) cx rfl dX4_number_23 ?_ ?_ rfl
    · rfl
    · rfl
