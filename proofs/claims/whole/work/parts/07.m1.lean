set_option maxHeartbeats 4000000 in
set_option maxRecDepth 100000 in
theorem c_X10_in (l : Launch) (K : KT) (sz : Nat) (v : Int32) (lo : Int32) (hi : Int32) (V : VW)  : Ct l K yX10_in cX10_in 3 (some .boolean) 0 [.int v, .int lo, .int hi] V sz (some (.int (b2 (lo ≤ v ∧ v ≤ hi)))) V sz 0 0 := by
  refine Ct.ofG (by decide) (Nat.le_of_ble_eq_true rfl) ?_
  intro p9 e9 s9 m9 a9 b9 t9 c9 cx hin9
  refine G.lv0 (lv2 := [(0, .int v), (1, .int lo), (2, .int hi)]) rfl ?_
  refine G.iload_n (pc := 0) cx dX10_in_0 rfl 0 rfl ?_
  refine G.iload_n (pc := 1) cx dX10_in_1 rfl 1 rfl ?_
  refine G.icmp_lt (pc := 2) cx dX10_in_2 (tgt := 14) (by decide) (fun cq2 => ?_) (fun cq2 => ?_)
  · skip
    refine G.iconst (pc := 14) cx dX10_in_14 (v := 0) (by decide) ?_
    refine G.zret (pc := 15) cx rfl dX10_in_15 rfl ?_ ?_ rfl
    · refine congrArg (fun x => some (Value.int x)) ?_
      (try clear hin9); (try clear cx); first | rfl | (refine b2_t ?_; grind) | (refine b2_f ?_; grind) | (simp [*, b2, Int32.not_lt, Int32.not_le]; done) | (simp_all [b2, Int32.not_lt, Int32.not_le]; done) | grind [b2, Int32.not_lt, Int32.not_le]
    · rfl
  · skip
    refine G.iload_n (pc := 5) cx dX10_in_5 rfl 0 rfl ?_
    refine G.iload_n (pc := 6) cx dX10_in_6 rfl 2 rfl ?_
    refine G.icmp_gt (pc := 7) cx dX10_in_7 (tgt := 14) (by decide) (fun cq7 => ?_) (fun cq7 => ?_)
    · skip
      refine G.iconst (pc := 14) cx dX10_in_14 (v := 0) (by decide) ?_
      refine G.zret (pc := 15) cx rfl dX10_in_15 rfl ?_ ?_ rfl
      · refine congrArg (fun x => some (Value.int x)) ?_
        (try clear hin9); (try clear cx); first | rfl | (refine b2_t ?_; grind) | (refine b2_f ?_; grind) | (simp [*, b2, Int32.not_lt, Int32.not_le]; done) | (simp_all [b2, Int32.not_lt, Int32.not_le]; done) | grind [b2, Int32.not_lt, Int32.not_le]
      · rfl
    · skip
      refine G.iconst (pc := 10) cx dX10_in_10 (v := 1) (by decide) ?_
      refine G.goto (pc := 11) cx dX10_in_11 (tgt := 15) (by decide) ?_
      refine G.zret (pc := 15) cx rfl dX10_in_15 rfl ?_ ?_ rfl
      · refine congrArg (fun x => some (Value.int x)) ?_
        (try clear hin9); (try clear cx); first | rfl | (refine b2_t ?_; grind) | (refine b2_f ?_; grind) | (simp [*, b2, Int32.not_lt, Int32.not_le]; done) | (simp_all [b2, Int32.not_lt, Int32.not_le]; done) | grind [b2, Int32.not_lt, Int32.not_le]
      · rfl
set_option maxHeartbeats 4000000 in
set_option maxRecDepth 100000 in
theorem c_X10_of (l : Launch) (K : KT) (sz : Nat) (o : Nat) (z : Zt) (r : Rt) (V : VW) (k : Nat) (w : Nat) (h : 10 * k + w < 231) : Ct l K yX10_of cX10_of 3 (some .int) 0 [.ref o, .int (nI k), .int (nI w)] (mw K o z r V) sz (some (.int (z (10 * k + w)))) (mw K o z r V) sz 0 0 := by
  refine Ct.ofG (by decide) (Nat.le_of_ble_eq_true rfl) ?_
  intro p9 e9 s9 m9 a9 b9 t9 c9 cx hin9
  refine G.lv0 (lv2 := [(0, .ref o), (1, .int (nI k)), (2, .int (nI w))]) rfl ?_
  refine G.aload_n (pc := 0) cx dX10_of_0 rfl 0 rfl ?_
  refine G.getM (pc := 1) cx dX10_of_1 0 wm_fl_X10_7 (by decide) rfl ?_
  refine G.bipush (pc := 4) cx dX10_of_4 (v := 10) (by decide) ?_
  refine G.iload_n (pc := 6) cx dX10_of_6 rfl 1 rfl ?_
  refine G.imulN (pc := 7) cx dX10_of_7 10 k ?_
  refine G.iload_n (pc := 8) cx dX10_of_8 rfl 2 rfl ?_
  refine G.iaddN (pc := 9) cx dX10_of_9 (10 * k) w ?_
  refine G.ialdV (pc := 10) cx dX10_of_10 mw_z (j := ((10 * k) + w)) rfl (by omega) (by decide) (cut_at (by omega)) ?_
  refine G.iret (pc := 11) cx rfl dX10_of_11 ?_ ?_ rfl
  · refine congrArg (fun x => some (Value.int x)) ?_
    (try clear hin9); (try clear cx); first | rfl | (refine b2_t ?_; grind) | (refine b2_f ?_; grind) | (simp [*]; done) | (simp_all; done) | grind
  · rfl
set_option maxHeartbeats 4000000 in
set_option maxRecDepth 100000 in
theorem c_X10_put (l : Launch) (K : KT) (sz : Nat) (o : Nat) (z : Zt) (r : Rt) (V : VW) (k : Nat) (w : Nat) (x : Int32) (h : 10 * k + w < 231) : Ct l K yX10_put cX10_put 4 none 0 [.ref o, .int (nI k), .int (nI w), .int x] (mw K o z r V) sz none (mw K o (upd z (10 * k + w) x) r V) sz 0 0 := by
  refine Ct.ofG (by decide) (Nat.le_of_ble_eq_true rfl) ?_
  intro p9 e9 s9 m9 a9 b9 t9 c9 cx hin9
  refine G.lv0 (lv2 := [(0, .ref o), (1, .int (nI k)), (2, .int (nI w)), (3, .int x)]) rfl ?_
  refine G.aload_n (pc := 0) cx dX10_put_0 rfl 0 rfl ?_
  refine G.getM (pc := 1) cx dX10_put_1 0 wm_fl_X10_7 (by decide) rfl ?_
  refine G.bipush (pc := 4) cx dX10_put_4 (v := 10) (by decide) ?_
  refine G.iload_n (pc := 6) cx dX10_put_6 rfl 1 rfl ?_
  refine G.imulN (pc := 7) cx dX10_put_7 10 k ?_
  refine G.iload_n (pc := 8) cx dX10_put_8 rfl 2 rfl ?_
  refine G.iaddN (pc := 9) cx dX10_put_9 (10 * k) w ?_
  refine G.iload_n (pc := 10) cx dX10_put_10 rfl 3 rfl ?_
  refine G.iastC (pc := 11) cx dX10_put_11 mw_z (j := ((10 * k) + w)) rfl (by omega) (by decide) mwZ ?_
  refine G.vret (pc := 12) cx rfl dX10_put_12 rfl ?_ rfl
  · refine congrArg (fun x => mw K o x r V) ?_
    (try clear hin9); (try clear cx); first | rfl | (refine b2_t ?_; grind) | (refine b2_f ?_; grind) | (simp [*]; done) | (simp_all; done) | grind
set_option maxHeartbeats 4000000 in
set_option maxRecDepth 100000 in
theorem c_X10_ofItem (l : Launch) (K : KT) (sz : Nat) (o : Nat) (z : Zt) (r : Rt) (V : VW) (k : Nat) (w : Nat) (h : 160 + 5 * k + w < 231) : Ct l K yX10_ofItem cX10_ofItem 3 (some .int) 0 [.ref o, .int (nI k), .int (nI w)] (mw K o z r V) sz (some (.int (z (160 + 5 * k + w)))) (mw K o z r V) sz 0 0 := by
  refine Ct.ofG (by decide) (Nat.le_of_ble_eq_true rfl) ?_
  intro p9 e9 s9 m9 a9 b9 t9 c9 cx hin9
  refine G.lv0 (lv2 := [(0, .ref o), (1, .int (nI k)), (2, .int (nI w))]) rfl ?_
  refine G.aload_n (pc := 0) cx dX10_ofItem_0 rfl 0 rfl ?_
  refine G.getM (pc := 1) cx dX10_ofItem_1 0 wm_fl_X10_7 (by decide) rfl ?_
  refine G.sipush (pc := 4) cx dX10_ofItem_4 (v := 160) (by decide) ?_
  refine G.iconst (pc := 7) cx dX10_ofItem_7 (v := 5) (by decide) ?_
  refine G.iload_n (pc := 8) cx dX10_ofItem_8 rfl 1 rfl ?_
  refine G.imulN (pc := 9) cx dX10_ofItem_9 5 k ?_
  refine G.iaddN (pc := 10) cx dX10_ofItem_10 160 (5 * k) ?_
  refine G.iload_n (pc := 11) cx dX10_ofItem_11 rfl 2 rfl ?_
  refine G.iaddN (pc := 12) cx dX10_ofItem_12 (160 + (5 * k)) w ?_
  refine G.ialdV (pc := 13) cx dX10_ofItem_13 mw_z (j := ((160 + (5 * k)) + w)) rfl (by omega) (by decide) (cut_at (by omega)) ?_
  refine G.iret (pc := 14) cx rfl dX10_ofItem_14 ?_ ?_ rfl
  · refine congrArg (fun x => some (Value.int x)) ?_
    (try clear hin9); (try clear cx); first | rfl | (refine b2_t ?_; grind) | (refine b2_f ?_; grind) | (simp [*]; done) | (simp_all; done) | grind
  · rfl
set_option maxHeartbeats 4000000 in
set_option maxRecDepth 100000 in
theorem c_X10_isAtSea (l : Launch) (K : KT) (sz : Nat) (o : Nat) (z : Zt) (r : Rt) (V : VW)  : Ct l K yX10_isAtSea cX10_isAtSea 1 (some .boolean) 0 [.ref o] (mw K o z r V) sz (some (.int (b2 (z 191 = 1)))) (mw K o z r V) sz 0 0 := by
  refine Ct.ofG (by decide) (Nat.le_of_ble_eq_true rfl) ?_
  intro p9 e9 s9 m9 a9 b9 t9 c9 cx hin9
  refine G.lv0 (lv2 := [(0, .ref o)]) rfl ?_
  refine G.aload_n (pc := 0) cx dX10_isAtSea_0 rfl 0 rfl ?_
  refine G.getM (pc := 1) cx dX10_isAtSea_1 0 wm_fl_X10_7 (by decide) rfl ?_
  refine G.sipush (pc := 4) cx dX10_isAtSea_4 (v := 191) (by decide) ?_
  refine G.ialdV (pc := 7) cx dX10_isAtSea_7 mw_z (j := 191) rfl (by omega) (by decide) (cut_at (by omega)) ?_
  refine G.iconst (pc := 8) cx dX10_isAtSea_8 (v := 1) (by decide) ?_
  refine G.icmp_ne (pc := 9) cx dX10_isAtSea_9 (tgt := 16) (by decide) (fun cq9 => ?_) (fun cq9 => ?_)
  · skip
    refine G.iconst (pc := 16) cx dX10_isAtSea_16 (v := 0) (by decide) ?_
    refine G.zret (pc := 17) cx rfl dX10_isAtSea_17 rfl ?_ ?_ rfl
    · refine congrArg (fun x => some (Value.int x)) ?_
      (try clear hin9); (try clear cx); first | rfl | (refine b2_t ?_; grind) | (refine b2_f ?_; grind) | (simp [*, b2]; done) | (simp_all [b2]; done) | grind [b2]
    · rfl
  · skip
    refine G.iconst (pc := 12) cx dX10_isAtSea_12 (v := 1) (by decide) ?_
    refine G.goto (pc := 13) cx dX10_isAtSea_13 (tgt := 17) (by decide) ?_
    refine G.zret (pc := 17) cx rfl dX10_isAtSea_17 rfl ?_ ?_ rfl
    · refine congrArg (fun x => some (Value.int x)) ?_
      (try clear hin9); (try clear cx); first | rfl | (refine b2_t ?_; grind) | (refine b2_f ?_; grind) | (simp [*, b2]; done) | (simp_all [b2]; done) | grind [b2]
    · rfl
set_option maxHeartbeats 4000000 in
set_option maxRecDepth 100000 in
theorem c_X10_isGone (l : Launch) (K : KT) (sz : Nat) (o : Nat) (z : Zt) (r : Rt) (V : VW) (k : Nat) (h : k < 16) : Ct l K yX10_isGone cX10_isGone 2 (some .boolean) 1 [.ref o, .int (nI k)] (mw K o z r V) sz (some (.int (b2 (z (10 * k + 2) = 2)))) (mw K o z r V) sz 0 0 := by
  refine Ct.ofG (by decide) (Nat.le_of_ble_eq_true rfl) ?_
  intro p9 e9 s9 m9 a9 b9 t9 c9 cx hin9
  refine G.lv0 (lv2 := [(0, .ref o), (1, .int (nI k))]) rfl ?_
  refine G.aload_n (pc := 0) cx dX10_isGone_0 rfl 0 rfl ?_
  refine G.iload_n (pc := 1) cx dX10_isGone_1 rfl 1 rfl ?_
  refine G.iconst (pc := 2) cx dX10_isGone_2 (v := 2) (by decide) ?_
  refine G.callV0 (pc := 3) (rest := []) (st1 := [.int (z (10 * k + 2))]) cx (c_X10_of l K sz o z r V k 2 (by omega)) ok_X10_of dX10_isGone_3 wm_ml_X10_29 rfl mw_m rfl rfl (Nat.le_of_ble_eq_true rfl) ⟨Nat.le_of_ble_eq_true rfl, Nat.le_of_ble_eq_true rfl⟩ rfl ?_
  refine G.iconst (pc := 6) cx dX10_isGone_6 (v := 2) (by decide) ?_
  refine G.icmp_ne (pc := 7) cx dX10_isGone_7 (tgt := 14) (by decide) (fun cq7 => ?_) (fun cq7 => ?_)
  · skip
    refine G.iconst (pc := 14) cx dX10_isGone_14 (v := 0) (by decide) ?_
    refine G.zret (pc := 15) cx rfl dX10_isGone_15 rfl ?_ ?_ rfl
    · refine congrArg (fun x => some (Value.int x)) ?_
      (try clear hin9); (try clear cx); first | rfl | (refine b2_t ?_; grind) | (refine b2_f ?_; grind) | (simp [*, b2]; done) | (simp_all [b2]; done) | grind [b2]
    · rfl
  · skip
    refine G.iconst (pc := 10) cx dX10_isGone_10 (v := 1) (by decide) ?_
    refine G.goto (pc := 11) cx dX10_isGone_11 (tgt := 15) (by decide) ?_
    refine G.zret (pc := 15) cx rfl dX10_isGone_15 rfl ?_ ?_ rfl
    · refine congrArg (fun x => some (Value.int x)) ?_
      (try clear hin9); (try clear cx); first | rfl | (refine b2_t ?_; grind) | (refine b2_f ?_; grind) | (simp [*, b2]; done) | (simp_all [b2]; done) | grind [b2]
    · rfl
set_option maxHeartbeats 4000000 in
set_option maxRecDepth 100000 in
theorem c_X10_isSailor (l : Launch) (K : KT) (sz : Nat) (o : Nat) (z : Zt) (r : Rt) (V : VW) (a : Int32)  : Ct l K yX10_isSailor cX10_isSailor 2 (some .boolean) 1 [.ref o, .int a] (mw K o z r V) sz (some (.int (b2 (0 ≤ a ∧ a ≤ z 194 - 1)))) (mw K o z r V) sz 0 0 := by
  refine Ct.ofG (by decide) (Nat.le_of_ble_eq_true rfl) ?_
  intro p9 e9 s9 m9 a9 b9 t9 c9 cx hin9
  refine G.lv0 (lv2 := [(0, .ref o), (1, .int a)]) rfl ?_
  refine G.iload_n (pc := 0) cx dX10_isSailor_0 rfl 1 rfl ?_
  refine G.iconst (pc := 1) cx dX10_isSailor_1 (v := 0) (by decide) ?_
  refine G.aload_n (pc := 2) cx dX10_isSailor_2 rfl 0 rfl ?_
  refine G.getM (pc := 3) cx dX10_isSailor_3 0 wm_fl_X10_7 (by decide) rfl ?_
  refine G.sipush (pc := 6) cx dX10_isSailor_6 (v := 194) (by decide) ?_
  refine G.ialdV (pc := 9) cx dX10_isSailor_9 mw_z (j := 194) rfl (by omega) (by decide) (cut_at (by omega)) ?_
  refine G.iconst (pc := 10) cx dX10_isSailor_10 (v := 1) (by decide) ?_
  refine G.isub (pc := 11) cx dX10_isSailor_11 ?_
  refine G.callS0 (pc := 12) (rest := []) (st1 := [.int (b2 (0 ≤ a ∧ a ≤ ((z 194) - 1)))]) cx (c_X10_in l K sz a 0 ((z 194) - 1) (mw K o z r V)) ok_X10_in dX10_isSailor_12 wm_ml_X10_25 rfl rfl (Nat.le_of_ble_eq_true rfl) ⟨Nat.le_of_ble_eq_true rfl, Nat.le_of_ble_eq_true rfl⟩ rfl ?_
  refine G.zret (pc := 15) cx rfl dX10_isSailor_15 b2_narrow ?_ ?_ rfl
  · refine congrArg (fun x => some (Value.int x)) ?_
    (try clear hin9); (try clear cx); first | rfl | (refine b2_t ?_; grind) | (refine b2_f ?_; grind) | (simp [*]; done) | (simp_all; done) | grind
  · rfl
set_option maxHeartbeats 4000000 in
set_option maxRecDepth 100000 in
theorem c_X10_isItem (l : Launch) (K : KT) (sz : Nat) (a : Int32) (V : VW)  : Ct l K yX10_isItem cX10_isItem 1 (some .boolean) 1 [.int a] V sz (some (.int (b2 (0 ≤ a ∧ a ≤ 5)))) V sz 0 0 := by
  refine Ct.ofG (by decide) (Nat.le_of_ble_eq_true rfl) ?_
  intro p9 e9 s9 m9 a9 b9 t9 c9 cx hin9
  refine G.lv0 (lv2 := [(0, .int a)]) rfl ?_
  refine G.iload_n (pc := 0) cx dX10_isItem_0 rfl 0 rfl ?_
  refine G.iconst (pc := 1) cx dX10_isItem_1 (v := 0) (by decide) ?_
  refine G.iconst (pc := 2) cx dX10_isItem_2 (v := 5) (by decide) ?_
  refine G.callS0 (pc := 3) (rest := []) (st1 := [.int (b2 (0 ≤ a ∧ a ≤ 5))]) cx (c_X10_in l K sz a 0 5 V) ok_X10_in dX10_isItem_3 wm_ml_X10_25 rfl rfl (Nat.le_of_ble_eq_true rfl) ⟨Nat.le_of_ble_eq_true rfl, Nat.le_of_ble_eq_true rfl⟩ rfl ?_
  refine G.zret (pc := 6) cx rfl dX10_isItem_6 b2_narrow ?_ ?_ rfl
  · rfl
  · rfl
set_option maxHeartbeats 4000000 in
set_option maxRecDepth 100000 in
theorem c_X10_wages (l : Launch) (K : KT) (sz : Nat) (q : Int32) (x : Int32) (y : Int32) (V : VW)  : Ct l K yX10_wages cX10_wages 4 (some .int) 0 [.int q, .int x, .int y] V sz (some (.int (zWages q x y))) V sz 0 0 := by
  refine Ct.ofG (by decide) (Nat.le_of_ble_eq_true rfl) ?_
  intro p9 e9 s9 m9 a9 b9 t9 c9 cx hin9
  refine G.lv0 (lv2 := [(0, .int q), (1, .int x), (2, .int y)]) rfl ?_
  refine G.iload_n (pc := 0) cx dX10_wages_0 rfl 1 rfl ?_
  refine G.iload_n (pc := 1) cx dX10_wages_1 rfl 2 rfl ?_
  refine G.iadd (pc := 2) cx dX10_wages_2 ?_
  refine G.istore_n (pc := 3) cx dX10_wages_3 rfl (by decide) rfl ?_
  refine G.iload_n (pc := 4) cx dX10_wages_4 rfl 1 rfl ?_
  refine G.if_ne (pc := 5) cx dX10_wages_5 (tgt := 14) (by decide) (fun cq5 => ?_) (fun cq5 => ?_)
  · skip
    refine G.iload_n (pc := 14) cx dX10_wages_14 rfl 1 rfl ?_
    refine G.iconst (pc := 15) cx dX10_wages_15 (v := 1) (by decide) ?_
    refine G.icmp_ne (pc := 16) cx dX10_wages_16 (tgt := 27) (by decide) (fun cq16 => ?_) (fun cq16 => ?_)
    · skip
      refine G.iload_n (pc := 27) cx dX10_wages_27 rfl 1 rfl ?_
      refine G.iconst (pc := 28) cx dX10_wages_28 (v := 2) (by decide) ?_
      refine G.icmp_ne (pc := 29) cx dX10_wages_29 (tgt := 43) (by decide) (fun cq29 => ?_) (fun cq29 => ?_)
      · skip
        refine G.iconst (pc := 43) cx dX10_wages_43 (v := 4) (by decide) ?_
        refine G.iload_n (pc := 44) cx dX10_wages_44 rfl 2 rfl ?_
        refine G.imul (pc := 45) cx dX10_wages_45 ?_
        refine G.iconst (pc := 46) cx dX10_wages_46 (v := 2) (by decide) ?_
        refine G.iload_n (pc := 47) cx dX10_wages_47 rfl 3 rfl ?_
        refine G.imul (pc := 48) cx dX10_wages_48 ?_
        refine G.iadd (pc := 49) cx dX10_wages_49 ?_
        refine G.iret (pc := 50) cx rfl dX10_wages_50 ?_ ?_ rfl
        · refine congrArg (fun x => some (Value.int x)) ?_
          (try clear hin9); (try clear cx); first | rfl | (refine b2_t ?_; grind) | (refine b2_f ?_; grind) | (simp [*, zWages]; done) | (simp_all [zWages]; done) | grind [zWages]
        · rfl
      · skip
        refine G.iconst (pc := 32) cx dX10_wages_32 (v := 2) (by decide) ?_
        refine G.iload_n (pc := 33) cx dX10_wages_33 rfl 0 rfl ?_
        refine G.imul (pc := 34) cx dX10_wages_34 ?_
        refine G.iload_n (pc := 35) cx dX10_wages_35 rfl 0 rfl ?_
        refine G.bipush (pc := 36) cx dX10_wages_36 (v := 7) (by decide) ?_
        refine G.idiv (pc := 38) cx dX10_wages_38 (by decide) ?_
        refine G.iadd (pc := 39) cx dX10_wages_39 ?_
        refine G.goto (pc := 40) cx dX10_wages_40 (tgt := 50) (by decide) ?_
        refine G.iret (pc := 50) cx rfl dX10_wages_50 ?_ ?_ rfl
        · refine congrArg (fun x => some (Value.int x)) ?_
          (try clear hin9); (try clear cx); first | rfl | (refine b2_t ?_; grind) | (refine b2_f ?_; grind) | (simp [*, zWages]; done) | (simp_all [zWages]; done) | grind [zWages]
        · rfl
    · skip
      refine G.iconst (pc := 19) cx dX10_wages_19 (v := 2) (by decide) ?_
      refine G.iload_n (pc := 20) cx dX10_wages_20 rfl 2 rfl ?_
      refine G.imul (pc := 21) cx dX10_wages_21 ?_
      refine G.iload_n (pc := 22) cx dX10_wages_22 rfl 3 rfl ?_
      refine G.iadd (pc := 23) cx dX10_wages_23 ?_
      refine G.goto (pc := 24) cx dX10_wages_24 (tgt := 50) (by decide) ?_
      refine G.iret (pc := 50) cx rfl dX10_wages_50 ?_ ?_ rfl
      · refine congrArg (fun x => some (Value.int x)) ?_
        (try clear hin9); (try clear cx); first | rfl | (refine b2_t ?_; grind) | (refine b2_f ?_; grind) | (simp [*, zWages]; done) | (simp_all [zWages]; done) | grind [zWages]
      · rfl
  · skip
    refine G.iload_n (pc := 8) cx dX10_wages_8 rfl 0 rfl ?_
    refine G.iconst (pc := 9) cx dX10_wages_9 (v := 2) (by decide) ?_
    refine G.idiv (pc := 10) cx dX10_wages_10 (by decide) ?_
    refine G.goto (pc := 11) cx dX10_wages_11 (tgt := 50) (by decide) ?_
    refine G.iret (pc := 50) cx rfl dX10_wages_50 ?_ ?_ rfl
    · refine congrArg (fun x => some (Value.int x)) ?_
      (try clear hin9); (try clear cx); first | rfl | (refine b2_t ?_; grind) | (refine b2_f ?_; grind) | (simp [*, zWages]; done) | (simp_all [zWages]; done) | grind [zWages]
    · rfl
set_option maxHeartbeats 4000000 in
set_option maxRecDepth 100000 in
theorem c_X10_earned (l : Launch) (K : KT) (sz : Nat) (o : Nat) (z : Zt) (r : Rt) (V : VW) (k : Nat) (h : k < 16) : Ct l K yX10_earned cX10_earned 2 (some .int) 1 [.ref o, .int (nI k)] (mw K o z r V) sz (some (.int (zEarn z k))) (mw K o z r V) sz 0 0 := by
  refine Ct.ofG (by decide) (Nat.le_of_ble_eq_true rfl) ?_
  intro p9 e9 s9 m9 a9 b9 t9 c9 cx hin9
  refine G.lv0 (lv2 := [(0, .ref o), (1, .int (nI k))]) rfl ?_
  refine G.aload_n (pc := 0) cx dX10_earned_0 rfl 0 rfl ?_
  refine G.iload_n (pc := 1) cx dX10_earned_1 rfl 1 rfl ?_
  refine G.iconst (pc := 2) cx dX10_earned_2 (v := 0) (by decide) ?_
  refine G.callV0 (pc := 3) (rest := []) (st1 := [.int (z (10 * k + 0))]) cx (c_X10_of l K sz o z r V k 0 (by omega)) ok_X10_of dX10_earned_3 wm_ml_X10_29 rfl mw_m rfl rfl (Nat.le_of_ble_eq_true rfl) ⟨Nat.le_of_ble_eq_true rfl, Nat.le_of_ble_eq_true rfl⟩ rfl ?_
  refine G.aload_n (pc := 6) cx dX10_earned_6 rfl 0 rfl ?_
  refine G.iload_n (pc := 7) cx dX10_earned_7 rfl 1 rfl ?_
  refine G.iconst (pc := 8) cx dX10_earned_8 (v := 3) (by decide) ?_
  refine G.callV0 (pc := 9) (rest := [.int (z (10 * k + 0))]) (st1 := [.int (z (10 * k + 3)), .int (z (10 * k + 0))]) cx (c_X10_of l K sz o z r V k 3 (by omega)) ok_X10_of dX10_earned_9 wm_ml_X10_29 rfl mw_m rfl rfl (Nat.le_of_ble_eq_true rfl) ⟨Nat.le_of_ble_eq_true rfl, Nat.le_of_ble_eq_true rfl⟩ rfl ?_
  refine G.aload_n (pc := 12) cx dX10_earned_12 rfl 0 rfl ?_
  refine G.iload_n (pc := 13) cx dX10_earned_13 rfl 1 rfl ?_
  refine G.iconst (pc := 14) cx dX10_earned_14 (v := 4) (by decide) ?_
  refine G.callV0 (pc := 15) (rest := [.int (z (10 * k + 3)), .int (z (10 * k + 0))]) (st1 := [.int (z (10 * k + 4)), .int (z (10 * k + 3)), .int (z (10 * k + 0))]) cx (c_X10_of l K sz o z r V k 4 (by omega)) ok_X10_of dX10_earned_15 wm_ml_X10_29 rfl mw_m rfl rfl (Nat.le_of_ble_eq_true rfl) ⟨Nat.le_of_ble_eq_true rfl, Nat.le_of_ble_eq_true rfl⟩ rfl ?_
  refine G.callS0 (pc := 18) (rest := []) (st1 := [.int (zWages (z (10 * k + 0)) (z (10 * k + 3)) (z (10 * k + 4)))]) cx (c_X10_wages l K sz (z (10 * k + 0)) (z (10 * k + 3)) (z (10 * k + 4)) (mw K o z r V)) ok_X10_wages dX10_earned_18 wm_ml_X10_38 rfl rfl (Nat.le_of_ble_eq_true rfl) ⟨Nat.le_of_ble_eq_true rfl, Nat.le_of_ble_eq_true rfl⟩ rfl ?_
  refine G.iret (pc := 21) cx rfl dX10_earned_21 ?_ ?_ rfl
  · refine congrArg (fun x => some (Value.int x)) ?_
    (try clear hin9); (try clear cx); first | rfl | (refine b2_t ?_; grind) | (refine b2_f ?_; grind) | (simp [*]; done) | (simp_all; done) | grind
  · rfl
set_option maxHeartbeats 4000000 in
set_option maxRecDepth 100000 in
theorem c_X10_charged (l : Launch) (K : KT) (sz : Nat) (o : Nat) (z : Zt) (r : Rt) (V : VW) (k : Nat) (h : k < 16) : Ct l K yX10_charged cX10_charged 2 (some .int) 1 [.ref o, .int (nI k)] (mw K o z r V) sz (some (.int (zChg z k))) (mw K o z r V) sz 0 0 := by
  refine Ct.ofG (by decide) (Nat.le_of_ble_eq_true rfl) ?_
  intro p9 e9 s9 m9 a9 b9 t9 c9 cx hin9
  refine G.lv0 (lv2 := [(0, .ref o), (1, .int (nI k))]) rfl ?_
  refine G.aload_n (pc := 0) cx dX10_charged_0 rfl 0 rfl ?_
  refine G.iload_n (pc := 1) cx dX10_charged_1 rfl 1 rfl ?_
  refine G.iconst (pc := 2) cx dX10_charged_2 (v := 5) (by decide) ?_
  refine G.callV0 (pc := 3) (rest := []) (st1 := [.int (z (10 * k + 5))]) cx (c_X10_of l K sz o z r V k 5 (by omega)) ok_X10_of dX10_charged_3 wm_ml_X10_29 rfl mw_m rfl rfl (Nat.le_of_ble_eq_true rfl) ⟨Nat.le_of_ble_eq_true rfl, Nat.le_of_ble_eq_true rfl⟩ rfl ?_
  refine G.aload_n (pc := 6) cx dX10_charged_6 rfl 0 rfl ?_
  refine G.iload_n (pc := 7) cx dX10_charged_7 rfl 1 rfl ?_
  refine G.bipush (pc := 8) cx dX10_charged_8 (v := 6) (by decide) ?_
  refine G.callV0 (pc := 10) (rest := [.int (z (10 * k + 5))]) (st1 := [.int (z (10 * k + 6)), .int (z (10 * k + 5))]) cx (c_X10_of l K sz o z r V k 6 (by omega)) ok_X10_of dX10_charged_10 wm_ml_X10_29 rfl mw_m rfl rfl (Nat.le_of_ble_eq_true rfl) ⟨Nat.le_of_ble_eq_true rfl, Nat.le_of_ble_eq_true rfl⟩ rfl ?_
  refine G.iadd (pc := 13) cx dX10_charged_13 ?_
  refine G.aload_n (pc := 14) cx dX10_charged_14 rfl 0 rfl ?_
  refine G.iload_n (pc := 15) cx dX10_charged_15 rfl 1 rfl ?_
  refine G.bipush (pc := 16) cx dX10_charged_16 (v := 7) (by decide) ?_
  refine G.callV0 (pc := 18) (rest := [.int ((z (10 * k + 5)) + (z (10 * k + 6)))]) (st1 := [.int (z (10 * k + 7)), .int ((z (10 * k + 5)) + (z (10 * k + 6)))]) cx (c_X10_of l K sz o z r V k 7 (by omega)) ok_X10_of dX10_charged_18 wm_ml_X10_29 rfl mw_m rfl rfl (Nat.le_of_ble_eq_true rfl) ⟨Nat.le_of_ble_eq_true rfl, Nat.le_of_ble_eq_true rfl⟩ rfl ?_
  refine G.iadd (pc := 21) cx dX10_charged_21 ?_
  refine G.iret (pc := 22) cx rfl dX10_charged_22 ?_ ?_ rfl
  · refine congrArg (fun x => some (Value.int x)) ?_
    (try clear hin9); (try clear cx); first | rfl | (refine b2_t ?_; grind) | (refine b2_f ?_; grind) | (simp [*]; done) | (simp_all; done) | grind
  · rfl
set_option maxHeartbeats 4000000 in
set_option maxRecDepth 100000 in
theorem c_X10_balance (l : Launch) (K : KT) (sz : Nat) (o : Nat) (z : Zt) (r : Rt) (V : VW) (k : Nat) (h : k < 16) : Ct l K yX10_balance cX10_balance 2 (some .int) 2 [.ref o, .int (nI k)] (mw K o z r V) sz (some (.int (zBal z k))) (mw K o z r V) sz 0 0 := by
  refine Ct.ofG (by decide) (Nat.le_of_ble_eq_true rfl) ?_
  intro p9 e9 s9 m9 a9 b9 t9 c9 cx hin9
  refine G.lv0 (lv2 := [(0, .ref o), (1, .int (nI k))]) rfl ?_
  refine G.aload_n (pc := 0) cx dX10_balance_0 rfl 0 rfl ?_
  refine G.iload_n (pc := 1) cx dX10_balance_1 rfl 1 rfl ?_
  refine G.callV0 (pc := 2) (rest := []) (st1 := [.int (b2 (z (10 * k + 2) = 2))]) cx (c_X10_isGone l K sz o z r V k (by omega)) ok_X10_isGone dX10_balance_2 wm_ml_X10_42 rfl mw_m rfl rfl (Nat.le_of_ble_eq_true rfl) ⟨Nat.le_of_ble_eq_true rfl, Nat.le_of_ble_eq_true rfl⟩ rfl ?_
  refine G.if_eqB (pc := 5) cx dX10_balance_5 (tgt := 12) (by decide) (fun cq5 => ?_) (fun cq5 => ?_)
  · skip
    refine G.aload_n (pc := 12) cx dX10_balance_12 rfl 0 rfl ?_
    refine G.iload_n (pc := 13) cx dX10_balance_13 rfl 1 rfl ?_
    refine G.callV0 (pc := 14) (rest := []) (st1 := [.int (zEarn z k)]) cx (c_X10_earned l K sz o z r V k (by omega)) ok_X10_earned dX10_balance_14 wm_ml_X10_46 rfl mw_m rfl rfl (Nat.le_of_ble_eq_true rfl) ⟨Nat.le_of_ble_eq_true rfl, Nat.le_of_ble_eq_true rfl⟩ rfl ?_
    refine G.aload_n (pc := 17) cx dX10_balance_17 rfl 0 rfl ?_
    refine G.iload_n (pc := 18) cx dX10_balance_18 rfl 1 rfl ?_
    refine G.bipush (pc := 19) cx dX10_balance_19 (v := 8) (by decide) ?_
    refine G.callV0 (pc := 21) (rest := [.int (zEarn z k)]) (st1 := [.int (z (10 * k + 8)), .int (zEarn z k)]) cx (c_X10_of l K sz o z r V k 8 (by omega)) ok_X10_of dX10_balance_21 wm_ml_X10_29 rfl mw_m rfl rfl (Nat.le_of_ble_eq_true rfl) ⟨Nat.le_of_ble_eq_true rfl, Nat.le_of_ble_eq_true rfl⟩ rfl ?_
    refine G.iadd (pc := 24) cx dX10_balance_24 ?_
    refine G.aload_n (pc := 25) cx dX10_balance_25 rfl 0 rfl ?_
    refine G.iload_n (pc := 26) cx dX10_balance_26 rfl 1 rfl ?_
    refine G.callV0 (pc := 27) (rest := [.int ((zEarn z k) + (z (10 * k + 8)))]) (st1 := [.int (zChg z k), .int ((zEarn z k) + (z (10 * k + 8)))]) cx (c_X10_charged l K sz o z r V k (by omega)) ok_X10_charged dX10_balance_27 wm_ml_X10_50 rfl mw_m rfl rfl (Nat.le_of_ble_eq_true rfl) ⟨Nat.le_of_ble_eq_true rfl, Nat.le_of_ble_eq_true rfl⟩ rfl ?_
    refine G.isub (pc := 30) cx dX10_balance_30 ?_
    refine G.iret (pc := 31) cx rfl dX10_balance_31 ?_ ?_ rfl
    · refine congrArg (fun x => some (Value.int x)) ?_
      (try clear hin9); (try clear cx); first | rfl | (refine b2_t ?_; grind) | (refine b2_f ?_; grind) | (simp [*, zBal]; done) | (simp_all [zBal]; done) | grind [zBal]
    · rfl
  · skip
    refine G.iconst (pc := 8) cx dX10_balance_8 (v := 0) (by decide) ?_
    refine G.goto (pc := 9) cx dX10_balance_9 (tgt := 31) (by decide) ?_
    refine G.iret (pc := 31) cx rfl dX10_balance_31 ?_ ?_ rfl
    · refine congrArg (fun x => some (Value.int x)) ?_
      (try clear hin9); (try clear cx); first | rfl | (refine b2_t ?_; grind) | (refine b2_f ?_; grind) | (simp [*, zBal]; done) | (simp_all [zBal]; done) | grind [zBal]
    · rfl
set_option maxHeartbeats 4000000 in
set_option maxRecDepth 100000 in
theorem c_X10_spend (l : Launch) (K : KT) (sz : Nat) (o : Nat) (z : Zt) (r : Rt) (V : VW) (x : Int32)  : Ct l K yX10_spend cX10_spend 2 none 0 [.ref o, .int x] (mw K o z r V) sz none (mw K o (zSpend z x) r V) sz 0 0 := by
  refine Ct.ofG (by decide) (Nat.le_of_ble_eq_true rfl) ?_
  intro p9 e9 s9 m9 a9 b9 t9 c9 cx hin9
  refine G.lv0 (lv2 := [(0, .ref o), (1, .int x)]) rfl ?_
  refine G.aload_n (pc := 0) cx dX10_spend_0 rfl 0 rfl ?_
  refine G.getM (pc := 1) cx dX10_spend_1 0 wm_fl_X10_7 (by decide) rfl ?_
  refine G.sipush (pc := 4) cx dX10_spend_4 (v := 196) (by decide) ?_
  refine G.dup2 (pc := 7) cx dX10_spend_7 rfl rfl ?_
  refine G.ialdV (pc := 8) cx dX10_spend_8 mw_z (j := 196) rfl (by omega) (by decide) (cut_at (by omega)) ?_
  refine G.iload_n (pc := 9) cx dX10_spend_9 rfl 1 rfl ?_
  refine G.aload_n (pc := 10) cx dX10_spend_10 rfl 0 rfl ?_
  refine G.getM (pc := 11) cx dX10_spend_11 0 wm_fl_X10_7 (by decide) rfl ?_
  refine G.sipush (pc := 14) cx dX10_spend_14 (v := 195) (by decide) ?_
  refine G.ialdV (pc := 17) cx dX10_spend_17 mw_z (j := 195) rfl (by omega) (by decide) (cut_at (by omega)) ?_
  have J35_1 : G K p9 l e9 (rmL 0 0 0) s9 m9 a9 b9 t9 c9 (MQ b9 (QCt K none (mw K o (zSpend z x) r V) sz) a9 s9 0 0 (kA K)) 2 (mw K o z r V) sz 0 0 35 [(0, .ref o), (1, .int x)] [.int (if z 195 < x then x - z 195 else 0), .int (z 196), .int 196, .ref (o + 1)] := by
    refine G.iadd (pc := 35) cx dX10_spend_35 ?_
    refine G.iastC (pc := 36) cx dX10_spend_36 mw_z (j := 196) rfl (by omega) (by decide) mwZ ?_
    refine G.aload_n (pc := 37) cx dX10_spend_37 rfl 0 rfl ?_
    refine G.getM (pc := 38) cx dX10_spend_38 0 wm_fl_X10_7 (by decide) rfl ?_
    refine G.sipush (pc := 41) cx dX10_spend_41 (v := 195) (by decide) ?_
    refine G.iload_n (pc := 44) cx dX10_spend_44 rfl 1 rfl ?_
    refine G.aload_n (pc := 45) cx dX10_spend_45 rfl 0 rfl ?_
    refine G.getM (pc := 46) cx dX10_spend_46 0 wm_fl_X10_7 (by decide) rfl ?_
    refine G.sipush (pc := 49) cx dX10_spend_49 (v := 195) (by decide) ?_
    refine G.ialdV (pc := 52) cx dX10_spend_52 mw_z (j := 195) rfl (by omega) (by decide) ((cut_at (by omega)).trans (upd_n (i := 196) (j := 195) z ((z 196) + (if z 195 < x then x - z 195 else 0)) (by omega))) ?_
    have J70_2 : G K p9 l e9 (rmL 0 0 0) s9 m9 a9 b9 t9 c9 (MQ b9 (QCt K none (mw K o (zSpend z x) r V) sz) a9 s9 0 0 (kA K)) 2 (mw K o (upd z 196 ((z 196) + (if z 195 < x then x - z 195 else 0))) r V) sz 0 0 70 [(0, .ref o), (1, .int x)] [.int (if z 195 < x then 0 else z 195 - x), .int 195, .ref (o + 1)] := by
      refine G.iastC (pc := 70) cx dX10_spend_70 mw_z (j := 195) rfl (by omega) (by decide) mwZ ?_
      refine G.vret (pc := 71) cx rfl dX10_spend_71 rfl ?_ rfl
      · refine congrArg (fun x => mw K o x r V) ?_
        (try clear J70_2); (try clear J35_1); (try clear hin9); (try clear cx); first | rfl | (refine b2_t ?_; grind) | (refine b2_f ?_; grind) | (simp [*, zSpend]; done) | (simp_all [zSpend]; done) | grind [zSpend]
    refine G.icmp_le (pc := 53) cx dX10_spend_53 (tgt := 60) (by decide) (fun cq53 => ?_) (fun cq53 => ?_)
    · skip
      refine G.aload_n (pc := 60) cx dX10_spend_60 rfl 0 rfl ?_
      refine G.getM (pc := 61) cx dX10_spend_61 0 wm_fl_X10_7 (by decide) rfl ?_
      refine G.sipush (pc := 64) cx dX10_spend_64 (v := 195) (by decide) ?_
      refine G.ialdV (pc := 67) cx dX10_spend_67 mw_z (j := 195) rfl (by omega) (by decide) ((cut_at (by omega)).trans (upd_n (i := 196) (j := 195) z ((z 196) + (if z 195 < x then x - z 195 else 0)) (by omega))) ?_
      refine G.iload_n (pc := 68) cx dX10_spend_68 rfl 1 rfl ?_
      refine G.isub (pc := 69) cx dX10_spend_69 ?_
      refine G.castS (st' := [.int (if z 195 < x then 0 else z 195 - x), .int 195, .ref (o + 1)]) (congrArg (fun q9 => ([.int q9, .int 195, .ref (o + 1)] : List Value)) (show ((z 195) - x : Int32) = if z 195 < x then 0 else z 195 - x from by (try clear J70_2); (try clear J35_1); (try clear hin9); (try clear cx); first | rfl | (refine b2_t ?_; grind) | (refine b2_f ?_; grind) | (simp [*, zSpend]; done) | (simp_all [zSpend]; done) | grind [zSpend])) ?_
      exact J70_2
    · skip
      refine G.iconst (pc := 56) cx dX10_spend_56 (v := 0) (by decide) ?_
      refine G.goto (pc := 57) cx dX10_spend_57 (tgt := 70) (by decide) ?_
      refine G.castS (st' := [.int (if z 195 < x then 0 else z 195 - x), .int 195, .ref (o + 1)]) (congrArg (fun q9 => ([.int q9, .int 195, .ref (o + 1)] : List Value)) (show (0 : Int32) = if z 195 < x then 0 else z 195 - x from by (try clear J70_2); (try clear J35_1); (try clear hin9); (try clear cx); first | rfl | (refine b2_t ?_; grind) | (refine b2_f ?_; grind) | (simp [*, zSpend]; done) | (simp_all [zSpend]; done) | grind [zSpend])) ?_
      exact J70_2
  refine G.icmp_le (pc := 18) cx dX10_spend_18 (tgt := 34) (by decide) (fun cq18 => ?_) (fun cq18 => ?_)
  · skip
    refine G.iconst (pc := 34) cx dX10_spend_34 (v := 0) (by decide) ?_
    refine G.castS (st' := [.int (if z 195 < x then x - z 195 else 0), .int (z 196), .int 196, .ref (o + 1)]) (congrArg (fun q9 => ([.int q9, .int (z 196), .int 196, .ref (o + 1)] : List Value)) (show (0 : Int32) = if z 195 < x then x - z 195 else 0 from by (try clear J70_2); (try clear J35_1); (try clear hin9); (try clear cx); first | rfl | (refine b2_t ?_; grind) | (refine b2_f ?_; grind) | (simp [*, zSpend]; done) | (simp_all [zSpend]; done) | grind [zSpend])) ?_
    exact J35_1
  · skip
    refine G.iload_n (pc := 21) cx dX10_spend_21 rfl 1 rfl ?_
    refine G.aload_n (pc := 22) cx dX10_spend_22 rfl 0 rfl ?_
    refine G.getM (pc := 23) cx dX10_spend_23 0 wm_fl_X10_7 (by decide) rfl ?_
    refine G.sipush (pc := 26) cx dX10_spend_26 (v := 195) (by decide) ?_
    refine G.ialdV (pc := 29) cx dX10_spend_29 mw_z (j := 195) rfl (by omega) (by decide) (cut_at (by omega)) ?_
    refine G.isub (pc := 30) cx dX10_spend_30 ?_
    refine G.goto (pc := 31) cx dX10_spend_31 (tgt := 35) (by decide) ?_
    refine G.castS (st' := [.int (if z 195 < x then x - z 195 else 0), .int (z 196), .int 196, .ref (o + 1)]) (congrArg (fun q9 => ([.int q9, .int (z 196), .int 196, .ref (o + 1)] : List Value)) (show (x - (z 195) : Int32) = if z 195 < x then x - z 195 else 0 from by (try clear J70_2); (try clear J35_1); (try clear hin9); (try clear cx); first | rfl | (refine b2_t ?_; grind) | (refine b2_f ?_; grind) | (simp [*, zSpend]; done) | (simp_all [zSpend]; done) | grind [zSpend])) ?_
    exact J35_1
set_option maxHeartbeats 4000000 in
set_option maxRecDepth 100000 in
theorem c_X10_write (l : Launch) (K : KT) (sz : Nat) (o : Nat) (z : Zt) (r : Rt) (V : VW) (a : Int32) (q : Int32) (x : Int32)  : Ct l K yX10_write cX10_write 5 none 0 [.ref o, .int a, .int q, .int x] (mw K o z r V) sz none (mw K o (zWrite z a q x) r V) sz 0 0 := by
  refine Ct.ofG (by decide) (Nat.le_of_ble_eq_true rfl) ?_
  intro p9 e9 s9 m9 a9 b9 t9 c9 cx hin9
  refine G.lv0 (lv2 := [(0, .ref o), (1, .int a), (2, .int q), (3, .int x)]) rfl ?_
  refine G.iload_n (pc := 0) cx dX10_write_0 rfl 3 rfl ?_
  refine G.if_ne (pc := 1) cx dX10_write_1 (tgt := 5) (by decide) (fun cq1 => ?_) (fun cq1 => ?_)
  · skip
    refine G.bipush (pc := 5) cx dX10_write_5 (v := 23) (by decide) ?_
    refine G.istore (pc := 7) cx dX10_write_7 (by decide) rfl ?_
    have L9_1 : ∀ (f k9 : Nat), 21 - k9 < f → k9 ≤ 21 → G K p9 l e9 (rmL 0 0 0) s9 m9 a9 b9 t9 c9 (MQ b9 (QCt K none (mw K o (zWrite z a q x) r V) sz) a9 s9 0 0 (kA K)) 5 (mw K o (zShift z (24 - k9)) r V) sz 0 0 9 [(4, .int (nI (23 - k9))), (0, .ref o), (1, .int a), (2, .int q), (3, .int x)] [] := by
      intro f
      induction f with
      | zero => intro k9 h9; omega
      | succ f ih9 =>
        intro k9 h99 h89
        refine G.iload (pc := 9) cx dX10_write_9 0 rfl ?_
        refine G.iconst (pc := 11) cx dX10_write_11 (v := 3) (by decide) ?_
        refine G.icmp_ltN (pc := 12) cx (23 - k9) 3 (by omega) (by omega) dX10_write_12 (tgt := 45) (by decide) (fun cq12 => ?_) (fun cq12 => ?_)
        · skip
          have ex9 : k9 = 21 := by omega
          try rw [ex9]
          refine G.aload_n (pc := 45) cx dX10_write_45 rfl 1 rfl ?_
          refine G.getM (pc := 46) cx dX10_write_46 0 wm_fl_X10_7 (by decide) rfl ?_
          refine G.sipush (pc := 49) cx dX10_write_49 (v := 207) (by decide) ?_
          refine G.iload_n (pc := 52) cx dX10_write_52 rfl 2 rfl ?_
          refine G.iastC (pc := 53) cx dX10_write_53 mw_z (j := 207) rfl (by omega) (by decide) mwZ ?_
          refine G.aload_n (pc := 54) cx dX10_write_54 rfl 1 rfl ?_
          refine G.getM (pc := 55) cx dX10_write_55 0 wm_fl_X10_7 (by decide) rfl ?_
          refine G.sipush (pc := 58) cx dX10_write_58 (v := 208) (by decide) ?_
          refine G.iload_n (pc := 61) cx dX10_write_61 rfl 3 rfl ?_
          refine G.iastC (pc := 62) cx dX10_write_62 mw_z (j := 208) rfl (by omega) (by decide) mwZ ?_
          refine G.aload_n (pc := 63) cx dX10_write_63 rfl 1 rfl ?_
          refine G.getM (pc := 64) cx dX10_write_64 0 wm_fl_X10_7 (by decide) rfl ?_
          refine G.sipush (pc := 67) cx dX10_write_67 (v := 209) (by decide) ?_
          refine G.iload_n (pc := 70) cx dX10_write_70 rfl 4 rfl ?_
          refine G.iastC (pc := 71) cx dX10_write_71 mw_z (j := 209) rfl (by omega) (by decide) mwZ ?_
          refine G.aload_n (pc := 72) cx dX10_write_72 rfl 1 rfl ?_
          refine G.getM (pc := 73) cx dX10_write_73 0 wm_fl_X10_7 (by decide) rfl ?_
          refine G.sipush (pc := 76) cx dX10_write_76 (v := 206) (by decide) ?_
          refine G.dup2 (pc := 79) cx dX10_write_79 rfl rfl ?_
          refine G.ialdV (pc := 80) cx dX10_write_80 mw_z (j := 206) rfl (by omega) (by decide) ((cut_at (by omega)).trans ((upd_n (i := 209) (j := 206) (upd (upd (zShift z (24 - 21)) 207 a) 208 q) x (by omega)).trans ((upd_n (i := 208) (j := 206) (upd (zShift z (24 - 21)) 207 a) q (by omega)).trans (upd_n (i := 207) (j := 206) (zShift z (24 - 21)) a (by omega))))) ?_
          refine G.aload_n (pc := 81) cx dX10_write_81 rfl 1 rfl ?_
          refine G.getM (pc := 82) cx dX10_write_82 0 wm_fl_X10_7 (by decide) rfl ?_
          refine G.sipush (pc := 85) cx dX10_write_85 (v := 206) (by decide) ?_
          refine G.ialdV (pc := 88) cx dX10_write_88 mw_z (j := 206) rfl (by omega) (by decide) ((cut_at (by omega)).trans ((upd_n (i := 209) (j := 206) (upd (upd (zShift z (24 - 21)) 207 a) 208 q) x (by omega)).trans ((upd_n (i := 208) (j := 206) (upd (zShift z (24 - 21)) 207 a) q (by omega)).trans (upd_n (i := 207) (j := 206) (zShift z (24 - 21)) a (by omega))))) ?_
          refine G.bipush (pc := 89) cx dX10_write_89 (v := 8) (by decide) ?_
          have J99_2 : G K p9 l e9 (rmL 0 0 0) s9 m9 a9 b9 t9 c9 (MQ b9 (QCt K none (mw K o (zWrite z a q x) r V) sz) a9 s9 0 0 (kA K)) 5 (mw K o (upd (upd (upd (zShift z (24 - 21)) 207 a) 208 q) 209 x) r V) sz 0 0 99 [(0, .ref o), (1, .int a), (2, .int q), (3, .int x), (4, .int (nI (23 - 21)))] [.int (if z 206 < 8 then 1 else 0), .int ((zShift z (24 - 21)) 206), .int 206, .ref (o + 1)] := by
            refine G.iadd (pc := 99) cx dX10_write_99 ?_
            refine G.iastC (pc := 100) cx dX10_write_100 mw_z (j := 206) rfl (by omega) (by decide) mwZ ?_
            refine G.vret (pc := 101) cx rfl dX10_write_101 rfl ?_ rfl
            · refine congrArg (fun x => mw K o x r V) ?_
              (try clear J99_2); (try clear L9_1); (try clear ih9); (try clear hin9); (try clear cx); simp only [zWrite, if_neg cq1]; simp [zShift, upd]
          refine G.icmp_ge (pc := 91) cx dX10_write_91 (tgt := 98) (by decide) (fun cq91 => ?_) (fun cq91 => ?_)
          · skip
            refine G.iconst (pc := 98) cx dX10_write_98 (v := 0) (by decide) ?_
            refine G.castS (st' := [.int (if z 206 < 8 then 1 else 0), .int ((zShift z (24 - 21)) 206), .int 206, .ref (o + 1)]) (congrArg (fun q9 => ([.int q9, .int ((zShift z (24 - 21)) 206), .int 206, .ref (o + 1)] : List Value)) (show (0 : Int32) = if z 206 < 8 then 1 else 0 from by rw [show zShift z (24 - 21) 206 = z 206 by simp [zShift]] at cq91; simp [cq91])) ?_
            refine G.castL (lv' := [(0, .ref o), (1, .int a), (2, .int q), (3, .int x), (4, .int (nI (23 - 21)))]) [1, 2, 3, 4, 0] rfl ?_
            exact J99_2
          · skip
            refine G.iconst (pc := 94) cx dX10_write_94 (v := 1) (by decide) ?_
            refine G.goto (pc := 95) cx dX10_write_95 (tgt := 99) (by decide) ?_
            refine G.castS (st' := [.int (if z 206 < 8 then 1 else 0), .int ((zShift z (24 - 21)) 206), .int 206, .ref (o + 1)]) (congrArg (fun q9 => ([.int q9, .int ((zShift z (24 - 21)) 206), .int 206, .ref (o + 1)] : List Value)) (show (1 : Int32) = if z 206 < 8 then 1 else 0 from by rw [show zShift z (24 - 21) 206 = z 206 by simp [zShift]] at cq91; simp [cq91])) ?_
            refine G.castL (lv' := [(0, .ref o), (1, .int a), (2, .int q), (3, .int x), (4, .int (nI (23 - 21)))]) [1, 2, 3, 4, 0] rfl ?_
            exact J99_2
        · skip
          refine G.aload_n (pc := 15) cx dX10_write_15 rfl 1 rfl ?_
          refine G.getM (pc := 16) cx dX10_write_16 0 wm_fl_X10_7 (by decide) rfl ?_
          refine G.sipush (pc := 19) cx dX10_write_19 (v := 207) (by decide) ?_
          refine G.iload (pc := 22) cx dX10_write_22 0 rfl ?_
          refine G.iaddN (pc := 24) cx dX10_write_24 207 (23 - k9) ?_
          refine G.aload_n (pc := 25) cx dX10_write_25 rfl 1 rfl ?_
          refine G.getM (pc := 26) cx dX10_write_26 0 wm_fl_X10_7 (by decide) rfl ?_
          refine G.sipush (pc := 29) cx dX10_write_29 (v := 207) (by decide) ?_
          refine G.iload (pc := 32) cx dX10_write_32 0 rfl ?_
          refine G.iaddN (pc := 34) cx dX10_write_34 207 (23 - k9) ?_
          refine G.iconst (pc := 35) cx dX10_write_35 (v := 3) (by decide) ?_
          refine G.isubN (pc := 36) cx dX10_write_36 (207 + (23 - k9)) 3 (by omega) ?_
          refine G.ialdV (pc := 37) cx dX10_write_37 mw_z (j := ((207 + (23 - k9)) - 3)) rfl (by omega) (by decide) (cut_at (by omega)) ?_
          refine G.iastC (pc := 38) cx dX10_write_38 mw_z (j := (207 + (23 - k9))) rfl (by omega) (by decide) mwZ ?_
          refine G.iinc (pc := 39) cx dX10_write_39 (v := nI (23 - (k9 + 1))) (k := 0) rfl (nI_dec (by omega)) (by decide) rfl ?_
          refine G.goto (pc := 42) cx dX10_write_42 (tgt := 9) (by decide) ?_
          refine G.cast (V' := (mw K o (zShift z (24 - (k9 + 1))) r V)) (congrArg (fun q9 => mw K o q9 r V) (by have e9 := zShift_step z (lo := 23 - k9) (by omega) (by omega); rw [show 23 - k9 + 1 = 24 - k9 by omega] at e9; exact e9.trans (congrArg (zShift z) (by omega)))) ?_
          exact ih9 (k9 + 1) (by omega) (by omega)
    refine G.cast (V' := (mw K o (zShift z (24 - 0)) r V)) (congrArg (fun q9 => mw K o q9 r V) (by first | exact (zShift_top z).symm | rfl)) ?_
    refine G.lv0 (lv2 := [(4, .int (nI (23 - 0))), (0, .ref o), (1, .int a), (2, .int q), (3, .int x)]) (congrArg (fun q9 => ([(4, .int q9), (0, .ref o), (1, .int a), (2, .int q), (3, .int x)] : List (Nat × Value))) (show (23 : Int32) = nI (23 - 0) from by first | exact (zShift_top z).symm | rfl)) ?_
    exact L9_1 (21 + 1) 0 (by omega) (by omega)
  · skip
    refine G.vret (pc := 4) cx rfl dX10_write_4 rfl ?_ rfl
    · refine congrArg (fun x => mw K o x r V) ?_
      (try clear J99_2); (try clear L9_1); (try clear ih9); (try clear hin9); (try clear cx); simp [zWrite, *]
set_option maxHeartbeats 4000000 in
set_option maxRecDepth 100000 in
theorem c_X10_clear (l : Launch) (K : KT) (sz : Nat) (o : Nat) (z : Zt) (r : Rt) (V : VW) (k : Nat) (h : k < 16) : Ct l K yX10_clear cX10_clear 3 none 1 [.ref o, .int (nI k)] (mw K o z r V) sz none (mw K o (zClear z k) r V) sz 0 0 := by
  refine Ct.ofG (by decide) (Nat.le_of_ble_eq_true rfl) ?_
  intro p9 e9 s9 m9 a9 b9 t9 c9 cx hin9
  refine G.lv0 (lv2 := [(0, .ref o), (1, .int (nI k))]) rfl ?_
  refine G.iconst (pc := 0) cx dX10_clear_0 (v := 3) (by decide) ?_
  refine G.istore_n (pc := 1) cx dX10_clear_1 rfl (by decide) rfl ?_
  have L2_1 : ∀ (f k2 : Nat), 9 - k2 < f → k2 ≤ 9 → 3 ≤ k2 → G K p9 l e9 (rmL 1 0 0) s9 m9 a9 b9 t9 c9 (MQ b9 (QCt K none (mw K o (zClear z k) r V) sz) a9 s9 0 0 (kA K)) 3 (mw K o (zClr z k k2) r V) sz 0 0 2 [(2, .int (nI k2)), (0, .ref o), (1, .int (nI k))] [] := by
    intro f
    induction f with
    | zero => intro k2 h9; omega
    | succ f ih2 =>
      intro k2 h92 h82 h72
      refine G.iload_n (pc := 2) cx dX10_clear_2 rfl 0 rfl ?_
      refine G.bipush (pc := 3) cx dX10_clear_3 (v := 8) (by decide) ?_
      refine G.icmp_gtN (pc := 5) cx k2 8 (by omega) (by omega) dX10_clear_5 (tgt := 21) (by decide) (fun cq5 => ?_) (fun cq5 => ?_)
      · skip
        have ex2 : k2 = 9 := by omega
        try rw [ex2]
        refine G.vret (pc := 21) cx rfl dX10_clear_21 rfl ?_ rfl
        · refine congrArg (fun x => mw K o x r V) ?_
          (try clear L2_1); (try clear ih2); (try clear hin9); (try clear cx); exact zClr_e z k
      · skip
        refine G.aload_n (pc := 8) cx dX10_clear_8 rfl 1 rfl ?_
        refine G.iload_n (pc := 9) cx dX10_clear_9 rfl 2 rfl ?_
        refine G.iload_n (pc := 10) cx dX10_clear_10 rfl 0 rfl ?_
        refine G.iconst (pc := 11) cx dX10_clear_11 (v := 0) (by decide) ?_
        refine G.callV0 (pc := 12) (rest := []) (st1 := []) cx (c_X10_put l K sz o (zClr z k k2) r V k k2 0 (by omega)) ok_X10_put dX10_clear_12 wm_ml_X10_53 rfl mw_m rfl rfl (Nat.le_of_ble_eq_true rfl) ⟨Nat.le_of_ble_eq_true rfl, Nat.le_of_ble_eq_true rfl⟩ rfl ?_
        refine G.iinc (pc := 15) cx dX10_clear_15 (v := nI (k2 + 1)) (k := 0) rfl (nI_add k2 1) (by decide) rfl ?_
        refine G.goto (pc := 18) cx dX10_clear_18 (tgt := 2) (by decide) ?_
        refine G.cast (V' := (mw K o (zClr z k (k2 + 1)) r V)) (congrArg (fun q9 => mw K o q9 r V) (by exact zClr_s z k (by omega))) ?_
        exact ih2 (k2 + 1) (by omega) (by omega) (by omega)
  refine G.cast (V' := (mw K o (zClr z k 3) r V)) (congrArg (fun q9 => mw K o q9 r V) (by first | exact (zClr_0 z k).symm | rfl)) ?_
  refine G.lv0 (lv2 := [(2, .int (nI 3)), (0, .ref o), (1, .int (nI k))]) (congrArg (fun q9 => ([(2, .int q9), (0, .ref o), (1, .int (nI k))] : List (Nat × Value))) (show (3 : Int32) = nI 3 from by first | exact (zClr_0 z k).symm | rfl)) ?_
  exact L2_1 (9 + 1) 3 (by omega) (by omega) (by omega)
set_option maxHeartbeats 4000000 in
set_option maxRecDepth 100000 in
theorem c_X10_charge (l : Launch) (K : KT) (sz : Nat) (o : Nat) (z : Zt) (r : Rt) (V : VW) (k : Nat) (w : Nat) (x : Int32) (h : k < 16) (hw : 5 ≤ w ∧ w ≤ 7) : Ct l K yX10_charge cX10_charge 4 none 2 [.ref o, .int (nI k), .int (nI w), .int x] (mw K o z r V) sz none (mw K o (zCharge z k w x) r V) sz 0 0 := by
  refine Ct.ofG (by decide) (Nat.le_of_ble_eq_true rfl) ?_
  intro p9 e9 s9 m9 a9 b9 t9 c9 cx hin9
  refine G.lv0 (lv2 := [(0, .ref o), (1, .int (nI k)), (2, .int (nI w)), (3, .int x)]) rfl ?_
  refine G.aload_n (pc := 0) cx dX10_charge_0 rfl 0 rfl ?_
  refine G.iload_n (pc := 1) cx dX10_charge_1 rfl 1 rfl ?_
  refine G.iload_n (pc := 2) cx dX10_charge_2 rfl 2 rfl ?_
  refine G.aload_n (pc := 3) cx dX10_charge_3 rfl 0 rfl ?_
  refine G.iload_n (pc := 4) cx dX10_charge_4 rfl 1 rfl ?_
  refine G.iload_n (pc := 5) cx dX10_charge_5 rfl 2 rfl ?_
  refine G.callV0 (pc := 6) (rest := [.int (nI w), .int (nI k), .ref o]) (st1 := [.int (z (10 * k + w)), .int (nI w), .int (nI k), .ref o]) cx (c_X10_of l K sz o z r V k w (by omega)) ok_X10_of dX10_charge_6 wm_ml_X10_29 rfl mw_m rfl rfl (Nat.le_of_ble_eq_true rfl) ⟨Nat.le_of_ble_eq_true rfl, Nat.le_of_ble_eq_true rfl⟩ rfl ?_
  refine G.iload_n (pc := 9) cx dX10_charge_9 rfl 3 rfl ?_
  refine G.iadd (pc := 10) cx dX10_charge_10 ?_
  refine G.callV0 (pc := 11) (rest := []) (st1 := []) cx (c_X10_put l K sz o z r V k w ((z (10 * k + w)) + x) (by omega)) ok_X10_put dX10_charge_11 wm_ml_X10_53 rfl mw_m rfl rfl (Nat.le_of_ble_eq_true rfl) ⟨Nat.le_of_ble_eq_true rfl, Nat.le_of_ble_eq_true rfl⟩ rfl ?_
  refine G.aload_n (pc := 14) cx dX10_charge_14 rfl 0 rfl ?_
  refine G.getM (pc := 15) cx dX10_charge_15 0 wm_fl_X10_7 (by decide) rfl ?_
  refine G.sipush (pc := 18) cx dX10_charge_18 (v := 201) (by decide) ?_
  refine G.dup2 (pc := 21) cx dX10_charge_21 rfl rfl ?_
  refine G.ialdV (pc := 22) cx dX10_charge_22 mw_z (j := 201) rfl (by omega) (by decide) ((cut_at (by omega)).trans (upd_n (i := 10 * k + w) (j := 201) z ((z (10 * k + w)) + x) (by omega))) ?_
  refine G.iload_n (pc := 23) cx dX10_charge_23 rfl 2 rfl ?_
  refine G.bipush (pc := 24) cx dX10_charge_24 (v := 6) (by decide) ?_
  have J34_1 : G K p9 l e9 (rmL 2 0 0) s9 m9 a9 b9 t9 c9 (MQ b9 (QCt K none (mw K o (zCharge z k w x) r V) sz) a9 s9 0 0 (kA K)) 4 (mw K o (upd z (10 * k + w) ((z (10 * k + w)) + x)) r V) sz 0 0 34 [(0, .ref o), (1, .int (nI k)), (2, .int (nI w)), (3, .int x)] [.int (if w = 6 then x else 0), .int (z 201), .int 201, .ref (o + 1)] := by
    refine G.iadd (pc := 34) cx dX10_charge_34 ?_
    refine G.iastC (pc := 35) cx dX10_charge_35 mw_z (j := 201) rfl (by omega) (by decide) mwZ ?_
    refine G.aload_n (pc := 36) cx dX10_charge_36 rfl 0 rfl ?_
    refine G.getM (pc := 37) cx dX10_charge_37 0 wm_fl_X10_7 (by decide) rfl ?_
    refine G.sipush (pc := 40) cx dX10_charge_40 (v := 200) (by decide) ?_
    refine G.dup2 (pc := 43) cx dX10_charge_43 rfl rfl ?_
    refine G.ialdV (pc := 44) cx dX10_charge_44 mw_z (j := 200) rfl (by omega) (by decide) ((cut_at (by omega)).trans ((upd_n (i := 201) (j := 200) (upd z (10 * k + w) ((z (10 * k + w)) + x)) ((z 201) + (if w = 6 then x else 0)) (by omega)).trans (upd_n (i := 10 * k + w) (j := 200) z ((z (10 * k + w)) + x) (by omega)))) ?_
    refine G.iload_n (pc := 45) cx dX10_charge_45 rfl 2 rfl ?_
    refine G.iconst (pc := 46) cx dX10_charge_46 (v := 5) (by decide) ?_
    have J55_2 : G K p9 l e9 (rmL 2 0 0) s9 m9 a9 b9 t9 c9 (MQ b9 (QCt K none (mw K o (zCharge z k w x) r V) sz) a9 s9 0 0 (kA K)) 4 (mw K o (upd (upd z (10 * k + w) ((z (10 * k + w)) + x)) 201 ((z 201) + (if w = 6 then x else 0))) r V) sz 0 0 55 [(0, .ref o), (1, .int (nI k)), (2, .int (nI w)), (3, .int x)] [.int (if w = 5 then x else 0), .int (z 200), .int 200, .ref (o + 1)] := by
      refine G.iadd (pc := 55) cx dX10_charge_55 ?_
      refine G.iastC (pc := 56) cx dX10_charge_56 mw_z (j := 200) rfl (by omega) (by decide) mwZ ?_
      refine G.aload_n (pc := 57) cx dX10_charge_57 rfl 0 rfl ?_
      refine G.getM (pc := 58) cx dX10_charge_58 0 wm_fl_X10_7 (by decide) rfl ?_
      refine G.sipush (pc := 61) cx dX10_charge_61 (v := 198) (by decide) ?_
      refine G.dup2 (pc := 64) cx dX10_charge_64 rfl rfl ?_
      refine G.ialdV (pc := 65) cx dX10_charge_65 mw_z (j := 198) rfl (by omega) (by decide) ((cut_at (by omega)).trans ((upd_n (i := 200) (j := 198) (upd (upd z (10 * k + w) ((z (10 * k + w)) + x)) 201 ((z 201) + (if w = 6 then x else 0))) ((z 200) + (if w = 5 then x else 0)) (by omega)).trans ((upd_n (i := 201) (j := 198) (upd z (10 * k + w) ((z (10 * k + w)) + x)) ((z 201) + (if w = 6 then x else 0)) (by omega)).trans (upd_n (i := 10 * k + w) (j := 198) z ((z (10 * k + w)) + x) (by omega))))) ?_
      refine G.iload_n (pc := 66) cx dX10_charge_66 rfl 2 rfl ?_
      refine G.bipush (pc := 67) cx dX10_charge_67 (v := 7) (by decide) ?_
      have J77_3 : G K p9 l e9 (rmL 2 0 0) s9 m9 a9 b9 t9 c9 (MQ b9 (QCt K none (mw K o (zCharge z k w x) r V) sz) a9 s9 0 0 (kA K)) 4 (mw K o (upd (upd (upd z (10 * k + w) ((z (10 * k + w)) + x)) 201 ((z 201) + (if w = 6 then x else 0))) 200 ((z 200) + (if w = 5 then x else 0))) r V) sz 0 0 77 [(0, .ref o), (1, .int (nI k)), (2, .int (nI w)), (3, .int x)] [.int (if w = 7 then x else 0), .int (z 198), .int 198, .ref (o + 1)] := by
        refine G.iadd (pc := 77) cx dX10_charge_77 ?_
        refine G.iastC (pc := 78) cx dX10_charge_78 mw_z (j := 198) rfl (by omega) (by decide) mwZ ?_
        refine G.aload_n (pc := 79) cx dX10_charge_79 rfl 0 rfl ?_
        refine G.iload_n (pc := 80) cx dX10_charge_80 rfl 1 rfl ?_
        refine G.iload_n (pc := 81) cx dX10_charge_81 rfl 2 rfl ?_
        refine G.iconst (pc := 82) cx dX10_charge_82 (v := 5) (by decide) ?_
        refine G.isubN (pc := 83) cx dX10_charge_83 w 5 (by omega) ?_
        refine G.iload_n (pc := 84) cx dX10_charge_84 rfl 3 rfl ?_
        refine G.callV0 (pc := 85) (rest := []) (st1 := []) cx (c_X10_write l K sz o (upd (upd (upd (upd z (10 * k + w) ((z (10 * k + w)) + x)) 201 ((z 201) + (if w = 6 then x else 0))) 200 ((z 200) + (if w = 5 then x else 0))) 198 ((z 198) + (if w = 7 then x else 0))) r V (nI k) (nI (w - 5)) x) ok_X10_write dX10_charge_85 wm_ml_X10_57 rfl mw_m rfl rfl (Nat.le_of_ble_eq_true rfl) ⟨Nat.le_of_ble_eq_true rfl, Nat.le_of_ble_eq_true rfl⟩ rfl ?_
        refine G.vret (pc := 88) cx rfl dX10_charge_88 rfl ?_ rfl
        · refine congrArg (fun x => mw K o x r V) ?_
          (try clear J77_3); (try clear J55_2); (try clear J34_1); (try clear hin9); (try clear cx); simp only [zCharge, zC1, zC2, zC3, zC4]; simp (disch := omega) only [upd_n]
      refine G.icmp_neN (pc := 69) cx w 7 (by omega) (by omega) dX10_charge_69 (tgt := 76) (by decide) (fun cq69 => ?_) (fun cq69 => ?_)
      · skip
        refine G.iconst (pc := 76) cx dX10_charge_76 (v := 0) (by decide) ?_
        refine G.castS (st' := [.int (if w = 7 then x else 0), .int (z 198), .int 198, .ref (o + 1)]) (congrArg (fun q9 => ([.int q9, .int (z 198), .int 198, .ref (o + 1)] : List Value)) (show (0 : Int32) = if w = 7 then x else 0 from by (try clear J77_3); (try clear J55_2); (try clear J34_1); (try clear hin9); (try clear cx); first | rfl | (refine b2_t ?_; grind) | (refine b2_f ?_; grind) | (simp [*]; done) | (simp_all; done) | grind)) ?_
        exact J77_3
      · skip
        refine G.iload_n (pc := 72) cx dX10_charge_72 rfl 3 rfl ?_
        refine G.goto (pc := 73) cx dX10_charge_73 (tgt := 77) (by decide) ?_
        refine G.castS (st' := [.int (if w = 7 then x else 0), .int (z 198), .int 198, .ref (o + 1)]) (congrArg (fun q9 => ([.int q9, .int (z 198), .int 198, .ref (o + 1)] : List Value)) (show (x : Int32) = if w = 7 then x else 0 from by (try clear J77_3); (try clear J55_2); (try clear J34_1); (try clear hin9); (try clear cx); first | rfl | (refine b2_t ?_; grind) | (refine b2_f ?_; grind) | (simp [*]; done) | (simp_all; done) | grind)) ?_
        exact J77_3
    refine G.icmp_neN (pc := 47) cx w 5 (by omega) (by omega) dX10_charge_47 (tgt := 54) (by decide) (fun cq47 => ?_) (fun cq47 => ?_)
    · skip
      refine G.iconst (pc := 54) cx dX10_charge_54 (v := 0) (by decide) ?_
      refine G.castS (st' := [.int (if w = 5 then x else 0), .int (z 200), .int 200, .ref (o + 1)]) (congrArg (fun q9 => ([.int q9, .int (z 200), .int 200, .ref (o + 1)] : List Value)) (show (0 : Int32) = if w = 5 then x else 0 from by (try clear J77_3); (try clear J55_2); (try clear J34_1); (try clear hin9); (try clear cx); first | rfl | (refine b2_t ?_; grind) | (refine b2_f ?_; grind) | (simp [*]; done) | (simp_all; done) | grind)) ?_
      exact J55_2
    · skip
      refine G.iload_n (pc := 50) cx dX10_charge_50 rfl 3 rfl ?_
      refine G.goto (pc := 51) cx dX10_charge_51 (tgt := 55) (by decide) ?_
      refine G.castS (st' := [.int (if w = 5 then x else 0), .int (z 200), .int 200, .ref (o + 1)]) (congrArg (fun q9 => ([.int q9, .int (z 200), .int 200, .ref (o + 1)] : List Value)) (show (x : Int32) = if w = 5 then x else 0 from by (try clear J77_3); (try clear J55_2); (try clear J34_1); (try clear hin9); (try clear cx); first | rfl | (refine b2_t ?_; grind) | (refine b2_f ?_; grind) | (simp [*]; done) | (simp_all; done) | grind)) ?_
      exact J55_2
  refine G.icmp_neN (pc := 26) cx w 6 (by omega) (by omega) dX10_charge_26 (tgt := 33) (by decide) (fun cq26 => ?_) (fun cq26 => ?_)
  · skip
    refine G.iconst (pc := 33) cx dX10_charge_33 (v := 0) (by decide) ?_
    refine G.castS (st' := [.int (if w = 6 then x else 0), .int (z 201), .int 201, .ref (o + 1)]) (congrArg (fun q9 => ([.int q9, .int (z 201), .int 201, .ref (o + 1)] : List Value)) (show (0 : Int32) = if w = 6 then x else 0 from by (try clear J77_3); (try clear J55_2); (try clear J34_1); (try clear hin9); (try clear cx); first | rfl | (refine b2_t ?_; grind) | (refine b2_f ?_; grind) | (simp [*]; done) | (simp_all; done) | grind)) ?_
    exact J34_1
  · skip
    refine G.iload_n (pc := 29) cx dX10_charge_29 rfl 3 rfl ?_
    refine G.goto (pc := 30) cx dX10_charge_30 (tgt := 34) (by decide) ?_
    refine G.castS (st' := [.int (if w = 6 then x else 0), .int (z 201), .int 201, .ref (o + 1)]) (congrArg (fun q9 => ([.int q9, .int (z 201), .int 201, .ref (o + 1)] : List Value)) (show (x : Int32) = if w = 6 then x else 0 from by (try clear J77_3); (try clear J55_2); (try clear J34_1); (try clear hin9); (try clear cx); first | rfl | (refine b2_t ?_; grind) | (refine b2_f ?_; grind) | (simp [*]; done) | (simp_all; done) | grind)) ?_
    exact J34_1
set_option maxHeartbeats 4000000 in
set_option maxRecDepth 100000 in
theorem c_X10_pay (l : Launch) (K : KT) (sz : Nat) (o : Nat) (z : Zt) (r : Rt) (V : VW) (k : Nat) (x : Int32) (h : k < 16) : Ct l K yX10_pay cX10_pay 3 none 2 [.ref o, .int (nI k), .int x] (mw K o z r V) sz none (mw K o (zPay z k x) r V) sz 0 0 := by
  refine Ct.ofG (by decide) (Nat.le_of_ble_eq_true rfl) ?_
  intro p9 e9 s9 m9 a9 b9 t9 c9 cx hin9
  refine G.lv0 (lv2 := [(0, .ref o), (1, .int (nI k)), (2, .int x)]) rfl ?_
  refine G.aload_n (pc := 0) cx dX10_pay_0 rfl 0 rfl ?_
  refine G.iload_n (pc := 1) cx dX10_pay_1 rfl 1 rfl ?_
  refine G.bipush (pc := 2) cx dX10_pay_2 (v := 9) (by decide) ?_
  refine G.aload_n (pc := 4) cx dX10_pay_4 rfl 0 rfl ?_
  refine G.iload_n (pc := 5) cx dX10_pay_5 rfl 1 rfl ?_
  refine G.bipush (pc := 6) cx dX10_pay_6 (v := 9) (by decide) ?_
  refine G.callV0 (pc := 8) (rest := [.int 9, .int (nI k), .ref o]) (st1 := [.int (z (10 * k + 9)), .int 9, .int (nI k), .ref o]) cx (c_X10_of l K sz o z r V k 9 (by omega)) ok_X10_of dX10_pay_8 wm_ml_X10_29 rfl mw_m rfl rfl (Nat.le_of_ble_eq_true rfl) ⟨Nat.le_of_ble_eq_true rfl, Nat.le_of_ble_eq_true rfl⟩ rfl ?_
  refine G.iload_n (pc := 11) cx dX10_pay_11 rfl 2 rfl ?_
  refine G.iadd (pc := 12) cx dX10_pay_12 ?_
  refine G.callV0 (pc := 13) (rest := []) (st1 := []) cx (c_X10_put l K sz o z r V k 9 ((z (10 * k + 9)) + x) (by omega)) ok_X10_put dX10_pay_13 wm_ml_X10_53 rfl mw_m rfl rfl (Nat.le_of_ble_eq_true rfl) ⟨Nat.le_of_ble_eq_true rfl, Nat.le_of_ble_eq_true rfl⟩ rfl ?_
  refine G.aload_n (pc := 16) cx dX10_pay_16 rfl 0 rfl ?_
  refine G.getM (pc := 17) cx dX10_pay_17 0 wm_fl_X10_7 (by decide) rfl ?_
  refine G.sipush (pc := 20) cx dX10_pay_20 (v := 199) (by decide) ?_
  refine G.dup2 (pc := 23) cx dX10_pay_23 rfl rfl ?_
  refine G.ialdV (pc := 24) cx dX10_pay_24 mw_z (j := 199) rfl (by omega) (by decide) ((cut_at (by omega)).trans (upd_n (i := 10 * k + 9) (j := 199) z ((z (10 * k + 9)) + x) (by omega))) ?_
  refine G.iload_n (pc := 25) cx dX10_pay_25 rfl 2 rfl ?_
  refine G.iadd (pc := 26) cx dX10_pay_26 ?_
  refine G.iastC (pc := 27) cx dX10_pay_27 mw_z (j := 199) rfl (by omega) (by decide) mwZ ?_
  refine G.aload_n (pc := 28) cx dX10_pay_28 rfl 0 rfl ?_
  refine G.iload_n (pc := 29) cx dX10_pay_29 rfl 2 rfl ?_
  refine G.callV0 (pc := 30) (rest := []) (st1 := []) cx (c_X10_spend l K sz o (upd (upd z (10 * k + 9) ((z (10 * k + 9)) + x)) 199 ((z 199) + x)) r V x) ok_X10_spend dX10_pay_30 wm_ml_X10_60 rfl mw_m rfl rfl (Nat.le_of_ble_eq_true rfl) ⟨Nat.le_of_ble_eq_true rfl, Nat.le_of_ble_eq_true rfl⟩ rfl ?_
  refine G.aload_n (pc := 33) cx dX10_pay_33 rfl 0 rfl ?_
  refine G.iload_n (pc := 34) cx dX10_pay_34 rfl 1 rfl ?_
  refine G.iconst (pc := 35) cx dX10_pay_35 (v := 3) (by decide) ?_
  refine G.iload_n (pc := 36) cx dX10_pay_36 rfl 2 rfl ?_
  refine G.callV0 (pc := 37) (rest := []) (st1 := []) cx (c_X10_write l K sz o (zSpend (upd (upd z (10 * k + 9) ((z (10 * k + 9)) + x)) 199 ((z 199) + x)) x) r V (nI k) 3 x) ok_X10_write dX10_pay_37 wm_ml_X10_57 rfl mw_m rfl rfl (Nat.le_of_ble_eq_true rfl) ⟨Nat.le_of_ble_eq_true rfl, Nat.le_of_ble_eq_true rfl⟩ rfl ?_
  refine G.vret (pc := 40) cx rfl dX10_pay_40 rfl ?_ rfl
  · refine congrArg (fun x => mw K o x r V) ?_
    (try clear hin9); (try clear cx); rfl
set_option maxHeartbeats 4000000 in
set_option maxRecDepth 100000 in
theorem c_X10_record (l : Launch) (K : KT) (sz : Nat) (o : Nat) (z : Zt) (r : Rt) (V : VW) (n : Nat) (hn : r.2.2.2.2 0 = nI n) (h : n ≤ 4) : Ct l K yX10_record cX10_record 3 none 0 [.ref o, .ref (o + 1)] (mw K o z r V) sz none (mw K o z (rRec r n z) V) sz 0 0 := by
  refine Ct.ofG (by decide) (Nat.le_of_ble_eq_true rfl) ?_
  intro p9 e9 s9 m9 a9 b9 t9 c9 cx hin9
  refine G.lv0 (lv2 := [(0, .ref o), (1, .ref (o + 1))]) rfl ?_
  refine G.aload_n (pc := 0) cx dX10_record_0 rfl 0 rfl ?_
  refine G.getM (pc := 1) cx dX10_record_1 3 wm_fl_X10_33 (by decide) (congrArg (fun x => some (Value.int x)) (hn)) ?_
  refine G.iconst (pc := 4) cx dX10_record_4 (v := 4) (by decide) ?_
  refine G.icmp_neN (pc := 5) cx n 4 (by omega) (by omega) dX10_record_5 (tgt := 49) (by decide) (fun cq5 => ?_) (fun cq5 => ?_)
  · skip
    refine G.iconst (pc := 49) cx dX10_record_49 (v := 0) (by decide) ?_
    refine G.istore_n (pc := 50) cx dX10_record_50 rfl (by decide) rfl ?_
    have L51_1 : ∀ (f k51 : Nat), 231 - k51 < f → k51 ≤ 231 → G K p9 l e9 (rmL 0 0 0) s9 m9 a9 b9 t9 c9 (MQ b9 (QCt K none (mw K o z (rRec r n z) V) sz) a9 s9 0 0 (kA K)) 3 (mw K o z (r.1, bCp r.2.1 n z k51, r.2.2.1, r.2.2.2.1, r.2.2.2.2) V) sz 0 0 51 [(0, .ref o), (1, .ref (o + 1)), (2, .int (nI k51))] [] := by
      intro f
      induction f with
      | zero => intro k51 h9; omega
      | succ f ih51 =>
        intro k51 h951 h851
        refine G.iload_n (pc := 51) cx dX10_record_51 rfl 2 rfl ?_
        refine G.sipush (pc := 52) cx dX10_record_52 (v := 231) (by decide) ?_
        refine G.icmp_geN (pc := 55) cx k51 231 (by omega) (by omega) dX10_record_55 (tgt := 82) (by decide) (fun cq55 => ?_) (fun cq55 => ?_)
        · skip
          have ex51 : k51 = 231 := by omega
          try rw [ex51]
          refine G.aload_n (pc := 82) cx dX10_record_82 rfl 0 rfl ?_
          refine G.dup (pc := 83) cx dX10_record_83 rfl ?_
          refine G.getM (pc := 84) cx dX10_record_84 3 wm_fl_X10_33 (by decide) (congrArg (fun x => some (Value.int x)) (hn)) ?_
          refine G.iconst (pc := 87) cx dX10_record_87 (v := 1) (by decide) ?_
          refine G.iaddN (pc := 88) cx dX10_record_88 n 1 ?_
          refine G.putM (pc := 89) cx dX10_record_89 3 0 wm_fl_X10_33 (by decide) rfl ?_
          refine G.vret (pc := 92) cx rfl dX10_record_92 rfl ?_ rfl
          · show _ = _
            (try clear L51_1); (try clear ih51); (try clear hin9); (try clear cx); first | (subst cq5; simp [rRec, recB, recN, upd_upd]; done) | (simp [rRec, recB, recN, upd_upd, cq5]; done)
        · skip
          refine G.aload_n (pc := 58) cx dX10_record_58 rfl 0 rfl ?_
          refine G.getM (pc := 59) cx dX10_record_59 2 wm_fl_X10_16 (by decide) rfl ?_
          refine G.sipush (pc := 62) cx dX10_record_62 (v := 231) (by decide) ?_
          refine G.aload_n (pc := 65) cx dX10_record_65 rfl 0 rfl ?_
          refine G.getM (pc := 66) cx dX10_record_66 3 wm_fl_X10_33 (by decide) (congrArg (fun x => some (Value.int x)) (hn)) ?_
          refine G.imulN (pc := 69) cx dX10_record_69 231 n ?_
          refine G.iload_n (pc := 70) cx dX10_record_70 rfl 2 rfl ?_
          refine G.iaddN (pc := 71) cx dX10_record_71 (231 * n) k51 ?_
          refine G.aload_n (pc := 72) cx dX10_record_72 rfl 1 rfl ?_
          refine G.iload_n (pc := 73) cx dX10_record_73 rfl 2 rfl ?_
          refine G.ialdV (pc := 74) cx dX10_record_74 mw_z (j := k51) rfl (by omega) (by decide) (cut_at (by omega)) ?_
          refine G.iastC (pc := 75) cx dX10_record_75 mw_be (j := ((231 * n) + k51)) rfl (by omega) (by decide) mwBe ?_
          refine G.iinc (pc := 76) cx dX10_record_76 (v := nI (k51 + 1)) (k := 2) rfl (nI_add k51 1) (by decide) rfl ?_
          refine G.goto (pc := 79) cx dX10_record_79 (tgt := 51) (by decide) ?_
          refine G.cast (V' := (mw K o z (r.1, bCp r.2.1 n z (k51 + 1), r.2.2.1, r.2.2.2.1, r.2.2.2.2) V)) (congrArg (fun q9 => mw K o z (r.1, q9, r.2.2.1, r.2.2.2.1, r.2.2.2.2) V) (by exact bCp_s _ _ _ _)) ?_
          refine G.castL (lv' := [(0, .ref o), (1, .ref (o + 1)), (2, .int (nI (k51 + 1)))]) [1, 2, 0] rfl ?_
          exact ih51 (k51 + 1) (by omega) (by omega)
    refine G.cast (V' := (mw K o z (r.1, bCp r.2.1 n z 0, r.2.2.1, r.2.2.2.1, r.2.2.2.2) V)) (congrArg (fun q9 => mw K o z (r.1, q9, r.2.2.1, r.2.2.2.1, r.2.2.2.2) V) (by first | exact (bCp_0 _ _ _).symm | rfl)) ?_
    refine G.castL (lv' := [(0, .ref o), (1, .ref (o + 1)), (2, .int 0)]) [1, 2, 0] rfl ?_
    refine G.lv0 (lv2 := [(0, .ref o), (1, .ref (o + 1)), (2, .int (nI 0))]) (congrArg (fun q9 => ([(0, .ref o), (1, .ref (o + 1)), (2, .int q9)] : List (Nat × Value))) (show (0 : Int32) = nI 0 from by first | exact (bCp_0 _ _ _).symm | rfl)) ?_
    exact L51_1 (231 + 1) 0 (by omega) (by omega)
  · skip
    refine G.iconst (pc := 8) cx dX10_record_8 (v := 0) (by decide) ?_
    refine G.istore_n (pc := 9) cx dX10_record_9 rfl (by decide) rfl ?_
    have L10_2 : ∀ (f k10 : Nat), 693 - k10 < f → k10 ≤ 693 → G K p9 l e9 (rmL 0 0 0) s9 m9 a9 b9 t9 c9 (MQ b9 (QCt K none (mw K o z (rRec r n z) V) sz) a9 s9 0 0 (kA K)) 3 (mw K o z (r.1, bSh r.2.1 k10, r.2.2.1, r.2.2.2.1, r.2.2.2.2) V) sz 0 0 10 [(0, .ref o), (1, .ref (o + 1)), (2, .int (nI k10))] [] := by
      intro f
      induction f with
      | zero => intro k10 h9; omega
      | succ f ih10 =>
        intro k10 h910 h810
        refine G.iload_n (pc := 10) cx dX10_record_10 rfl 2 rfl ?_
        refine G.sipush (pc := 11) cx dX10_record_11 (v := 693) (by decide) ?_
        refine G.icmp_geN (pc := 14) cx k10 693 (by omega) (by omega) dX10_record_14 (tgt := 39) (by decide) (fun cq14 => ?_) (fun cq14 => ?_)
        · skip
          have ex10 : k10 = 693 := by omega
          try rw [ex10]
          refine G.aload_n (pc := 39) cx dX10_record_39 rfl 0 rfl ?_
          refine G.dup (pc := 40) cx dX10_record_40 rfl ?_
          refine G.getM (pc := 41) cx dX10_record_41 3 wm_fl_X10_33 (by decide) (congrArg (fun x => some (Value.int x)) (hn)) ?_
          refine G.iconst (pc := 44) cx dX10_record_44 (v := 1) (by decide) ?_
          refine G.isubN (pc := 45) cx dX10_record_45 n 1 (by omega) ?_
          refine G.putM (pc := 46) cx dX10_record_46 3 0 wm_fl_X10_33 (by decide) rfl ?_
          refine G.iconst (pc := 49) cx dX10_record_49 (v := 0) (by decide) ?_
          refine G.istore_n (pc := 50) cx dX10_record_50 rfl (by decide) rfl ?_
          have L51_3 : ∀ (f k51 : Nat), 231 - k51 < f → k51 ≤ 231 → G K p9 l e9 (rmL 0 0 0) s9 m9 a9 b9 t9 c9 (MQ b9 (QCt K none (mw K o z (rRec r n z) V) sz) a9 s9 0 0 (kA K)) 3 (mw K o z (r.1, bCp (bSh r.2.1 693) (n - 1) z k51, r.2.2.1, r.2.2.2.1, upd r.2.2.2.2 0 (nI (n - 1))) V) sz 0 0 51 [(0, .ref o), (1, .ref (o + 1)), (2, .int (nI k51))] [] := by
            intro f
            induction f with
            | zero => intro k51 h9; omega
            | succ f ih51 =>
              intro k51 h951 h851
              refine G.iload_n (pc := 51) cx dX10_record_51 rfl 2 rfl ?_
              refine G.sipush (pc := 52) cx dX10_record_52 (v := 231) (by decide) ?_
              refine G.icmp_geN (pc := 55) cx k51 231 (by omega) (by omega) dX10_record_55 (tgt := 82) (by decide) (fun cq55 => ?_) (fun cq55 => ?_)
              · skip
                have ex51 : k51 = 231 := by omega
                try rw [ex51]
                refine G.aload_n (pc := 82) cx dX10_record_82 rfl 0 rfl ?_
                refine G.dup (pc := 83) cx dX10_record_83 rfl ?_
                refine G.getM (pc := 84) cx dX10_record_84 3 wm_fl_X10_33 (by decide) (congrArg (fun x => some (Value.int x)) (upd_s r.2.2.2.2 0 (nI (n - 1)))) ?_
                refine G.iconst (pc := 87) cx dX10_record_87 (v := 1) (by decide) ?_
                refine G.iaddN (pc := 88) cx dX10_record_88 (n - 1) 1 ?_
                refine G.putM (pc := 89) cx dX10_record_89 3 0 wm_fl_X10_33 (by decide) rfl ?_
                refine G.vret (pc := 92) cx rfl dX10_record_92 rfl ?_ rfl
                · show _ = _
                  (try clear L51_3); (try clear ih51); (try clear L10_2); (try clear ih10); (try clear L51_1); (try clear ih51); (try clear hin9); (try clear cx); first | (subst cq5; simp [rRec, recB, recN, upd_upd]; done) | (simp [rRec, recB, recN, upd_upd, cq5]; done)
              · skip
                refine G.aload_n (pc := 58) cx dX10_record_58 rfl 0 rfl ?_
                refine G.getM (pc := 59) cx dX10_record_59 2 wm_fl_X10_16 (by decide) rfl ?_
                refine G.sipush (pc := 62) cx dX10_record_62 (v := 231) (by decide) ?_
                refine G.aload_n (pc := 65) cx dX10_record_65 rfl 0 rfl ?_
                refine G.getM (pc := 66) cx dX10_record_66 3 wm_fl_X10_33 (by decide) (congrArg (fun x => some (Value.int x)) (upd_s r.2.2.2.2 0 (nI (n - 1)))) ?_
                refine G.imulN (pc := 69) cx dX10_record_69 231 (n - 1) ?_
                refine G.iload_n (pc := 70) cx dX10_record_70 rfl 2 rfl ?_
                refine G.iaddN (pc := 71) cx dX10_record_71 (231 * (n - 1)) k51 ?_
                refine G.aload_n (pc := 72) cx dX10_record_72 rfl 1 rfl ?_
                refine G.iload_n (pc := 73) cx dX10_record_73 rfl 2 rfl ?_
                refine G.ialdV (pc := 74) cx dX10_record_74 mw_z (j := k51) rfl (by omega) (by decide) (cut_at (by omega)) ?_
                refine G.iastC (pc := 75) cx dX10_record_75 mw_be (j := ((231 * (n - 1)) + k51)) rfl (by omega) (by decide) mwBe ?_
                refine G.iinc (pc := 76) cx dX10_record_76 (v := nI (k51 + 1)) (k := 2) rfl (nI_add k51 1) (by decide) rfl ?_
                refine G.goto (pc := 79) cx dX10_record_79 (tgt := 51) (by decide) ?_
                refine G.cast (V' := (mw K o z (r.1, bCp (bSh r.2.1 693) (n - 1) z (k51 + 1), r.2.2.1, r.2.2.2.1, upd r.2.2.2.2 0 (nI (n - 1))) V)) (congrArg (fun q9 => mw K o z (r.1, q9, r.2.2.1, r.2.2.2.1, upd r.2.2.2.2 0 (nI (n - 1))) V) (by exact bCp_s _ _ _ _)) ?_
                refine G.castL (lv' := [(0, .ref o), (1, .ref (o + 1)), (2, .int (nI (k51 + 1)))]) [1, 2, 0] rfl ?_
                exact ih51 (k51 + 1) (by omega) (by omega)
          refine G.cast (V' := (mw K o z (r.1, bCp (bSh r.2.1 693) (n - 1) z 0, r.2.2.1, r.2.2.2.1, upd r.2.2.2.2 0 (nI (n - 1))) V)) (congrArg (fun q9 => mw K o z (r.1, q9, r.2.2.1, r.2.2.2.1, upd r.2.2.2.2 0 (nI (n - 1))) V) (by first | exact (bCp_0 _ _ _).symm | rfl)) ?_
          refine G.castL (lv' := [(0, .ref o), (1, .ref (o + 1)), (2, .int 0)]) [1, 2, 0] rfl ?_
          refine G.lv0 (lv2 := [(0, .ref o), (1, .ref (o + 1)), (2, .int (nI 0))]) (congrArg (fun q9 => ([(0, .ref o), (1, .ref (o + 1)), (2, .int q9)] : List (Nat × Value))) (show (0 : Int32) = nI 0 from by first | exact (bCp_0 _ _ _).symm | rfl)) ?_
          exact L51_3 (231 + 1) 0 (by omega) (by omega)
        · skip
          refine G.aload_n (pc := 17) cx dX10_record_17 rfl 0 rfl ?_
          refine G.getM (pc := 18) cx dX10_record_18 2 wm_fl_X10_16 (by decide) rfl ?_
          refine G.iload_n (pc := 21) cx dX10_record_21 rfl 2 rfl ?_
          refine G.aload_n (pc := 22) cx dX10_record_22 rfl 0 rfl ?_
          refine G.getM (pc := 23) cx dX10_record_23 2 wm_fl_X10_16 (by decide) rfl ?_
          refine G.sipush (pc := 26) cx dX10_record_26 (v := 231) (by decide) ?_
          refine G.iload_n (pc := 29) cx dX10_record_29 rfl 2 rfl ?_
          refine G.iaddN (pc := 30) cx dX10_record_30 231 k10 ?_
          refine G.ialdV (pc := 31) cx dX10_record_31 mw_be (j := (231 + k10)) rfl (by omega) (by decide) (cut_at (by omega)) ?_
          refine G.iastC (pc := 32) cx dX10_record_32 mw_be (j := k10) rfl (by omega) (by decide) mwBe ?_
          refine G.iinc (pc := 33) cx dX10_record_33 (v := nI (k10 + 1)) (k := 2) rfl (nI_add k10 1) (by decide) rfl ?_
          refine G.goto (pc := 36) cx dX10_record_36 (tgt := 10) (by decide) ?_
          refine G.cast (V' := (mw K o z (r.1, bSh r.2.1 (k10 + 1), r.2.2.1, r.2.2.2.1, r.2.2.2.2) V)) (congrArg (fun q9 => mw K o z (r.1, q9, r.2.2.1, r.2.2.2.1, r.2.2.2.2) V) (by exact bSh_s _ _)) ?_
          refine G.castL (lv' := [(0, .ref o), (1, .ref (o + 1)), (2, .int (nI (k10 + 1)))]) [1, 2, 0] rfl ?_
          exact ih10 (k10 + 1) (by omega) (by omega)
    refine G.cast (V' := (mw K o z (r.1, bSh r.2.1 0, r.2.2.1, r.2.2.2.1, r.2.2.2.2) V)) (congrArg (fun q9 => mw K o z (r.1, q9, r.2.2.1, r.2.2.2.1, r.2.2.2.2) V) (by first | exact (bSh_0 _).symm | rfl)) ?_
    refine G.castL (lv' := [(0, .ref o), (1, .ref (o + 1)), (2, .int 0)]) [1, 2, 0] rfl ?_
    refine G.lv0 (lv2 := [(0, .ref o), (1, .ref (o + 1)), (2, .int (nI 0))]) (congrArg (fun q9 => ([(0, .ref o), (1, .ref (o + 1)), (2, .int q9)] : List (Nat × Value))) (show (0 : Int32) = nI 0 from by first | exact (bSh_0 _).symm | rfl)) ?_
    exact L10_2 (693 + 1) 0 (by omega) (by omega)
set_option maxHeartbeats 4000000 in
set_option maxRecDepth 100000 in
theorem c_X10_recordA (l : Launch) (K : KT) (sz : Nat) (o : Nat) (z : Zt) (r : Rt) (V : VW) (n : Nat) (hn : r.2.2.2.2 0 = nI n) (h : n ≤ 4) : Ct l K yX10_record cX10_record 3 none 0 [.ref o, .ref (o + 2)] (mw K o z r V) sz none (mw K o z (rRec r n r.1) V) sz 0 0 := by
  refine Ct.ofG (by decide) (Nat.le_of_ble_eq_true rfl) ?_
  intro p9 e9 s9 m9 a9 b9 t9 c9 cx hin9
  refine G.lv0 (lv2 := [(0, .ref o), (1, .ref (o + 2))]) rfl ?_
  refine G.aload_n (pc := 0) cx dX10_record_0 rfl 0 rfl ?_
  refine G.getM (pc := 1) cx dX10_record_1 3 wm_fl_X10_33 (by decide) (congrArg (fun x => some (Value.int x)) (hn)) ?_
  refine G.iconst (pc := 4) cx dX10_record_4 (v := 4) (by decide) ?_
  refine G.icmp_neN (pc := 5) cx n 4 (by omega) (by omega) dX10_record_5 (tgt := 49) (by decide) (fun cq5 => ?_) (fun cq5 => ?_)
  · skip
    refine G.iconst (pc := 49) cx dX10_record_49 (v := 0) (by decide) ?_
    refine G.istore_n (pc := 50) cx dX10_record_50 rfl (by decide) rfl ?_
    have L51_1 : ∀ (f k51 : Nat), 231 - k51 < f → k51 ≤ 231 → G K p9 l e9 (rmL 0 0 0) s9 m9 a9 b9 t9 c9 (MQ b9 (QCt K none (mw K o z (rRec r n r.1) V) sz) a9 s9 0 0 (kA K)) 3 (mw K o z (r.1, bCp r.2.1 n r.1 k51, r.2.2.1, r.2.2.2.1, r.2.2.2.2) V) sz 0 0 51 [(0, .ref o), (1, .ref (o + 2)), (2, .int (nI k51))] [] := by
      intro f
      induction f with
      | zero => intro k51 h9; omega
      | succ f ih51 =>
        intro k51 h951 h851
        refine G.iload_n (pc := 51) cx dX10_record_51 rfl 2 rfl ?_
        refine G.sipush (pc := 52) cx dX10_record_52 (v := 231) (by decide) ?_
        refine G.icmp_geN (pc := 55) cx k51 231 (by omega) (by omega) dX10_record_55 (tgt := 82) (by decide) (fun cq55 => ?_) (fun cq55 => ?_)
        · skip
          have ex51 : k51 = 231 := by omega
          try rw [ex51]
          refine G.aload_n (pc := 82) cx dX10_record_82 rfl 0 rfl ?_
          refine G.dup (pc := 83) cx dX10_record_83 rfl ?_
          refine G.getM (pc := 84) cx dX10_record_84 3 wm_fl_X10_33 (by decide) (congrArg (fun x => some (Value.int x)) (hn)) ?_
          refine G.iconst (pc := 87) cx dX10_record_87 (v := 1) (by decide) ?_
          refine G.iaddN (pc := 88) cx dX10_record_88 n 1 ?_
          refine G.putM (pc := 89) cx dX10_record_89 3 0 wm_fl_X10_33 (by decide) rfl ?_
          refine G.vret (pc := 92) cx rfl dX10_record_92 rfl ?_ rfl
          · show _ = _
            (try clear L51_1); (try clear ih51); (try clear hin9); (try clear cx); first | (subst cq5; simp [rRec, recB, recN, upd_upd]; done) | (simp [rRec, recB, recN, upd_upd, cq5]; done)
        · skip
          refine G.aload_n (pc := 58) cx dX10_record_58 rfl 0 rfl ?_
          refine G.getM (pc := 59) cx dX10_record_59 2 wm_fl_X10_16 (by decide) rfl ?_
          refine G.sipush (pc := 62) cx dX10_record_62 (v := 231) (by decide) ?_
          refine G.aload_n (pc := 65) cx dX10_record_65 rfl 0 rfl ?_
          refine G.getM (pc := 66) cx dX10_record_66 3 wm_fl_X10_33 (by decide) (congrArg (fun x => some (Value.int x)) (hn)) ?_
          refine G.imulN (pc := 69) cx dX10_record_69 231 n ?_
          refine G.iload_n (pc := 70) cx dX10_record_70 rfl 2 rfl ?_
          refine G.iaddN (pc := 71) cx dX10_record_71 (231 * n) k51 ?_
          refine G.aload_n (pc := 72) cx dX10_record_72 rfl 1 rfl ?_
          refine G.iload_n (pc := 73) cx dX10_record_73 rfl 2 rfl ?_
          refine G.ialdV (pc := 74) cx dX10_record_74 mw_as (j := k51) rfl (by omega) (by decide) (cut_at (by omega)) ?_
          refine G.iastC (pc := 75) cx dX10_record_75 mw_be (j := ((231 * n) + k51)) rfl (by omega) (by decide) mwBe ?_
          refine G.iinc (pc := 76) cx dX10_record_76 (v := nI (k51 + 1)) (k := 2) rfl (nI_add k51 1) (by decide) rfl ?_
          refine G.goto (pc := 79) cx dX10_record_79 (tgt := 51) (by decide) ?_
          refine G.cast (V' := (mw K o z (r.1, bCp r.2.1 n r.1 (k51 + 1), r.2.2.1, r.2.2.2.1, r.2.2.2.2) V)) (congrArg (fun q9 => mw K o z (r.1, q9, r.2.2.1, r.2.2.2.1, r.2.2.2.2) V) (by exact bCp_s _ _ _ _)) ?_
          refine G.castL (lv' := [(0, .ref o), (1, .ref (o + 2)), (2, .int (nI (k51 + 1)))]) [1, 2, 0] rfl ?_
          exact ih51 (k51 + 1) (by omega) (by omega)
    refine G.cast (V' := (mw K o z (r.1, bCp r.2.1 n r.1 0, r.2.2.1, r.2.2.2.1, r.2.2.2.2) V)) (congrArg (fun q9 => mw K o z (r.1, q9, r.2.2.1, r.2.2.2.1, r.2.2.2.2) V) (by first | exact (bCp_0 _ _ _).symm | rfl)) ?_
    refine G.castL (lv' := [(0, .ref o), (1, .ref (o + 2)), (2, .int 0)]) [1, 2, 0] rfl ?_
    refine G.lv0 (lv2 := [(0, .ref o), (1, .ref (o + 2)), (2, .int (nI 0))]) (congrArg (fun q9 => ([(0, .ref o), (1, .ref (o + 2)), (2, .int q9)] : List (Nat × Value))) (show (0 : Int32) = nI 0 from by first | exact (bCp_0 _ _ _).symm | rfl)) ?_
    exact L51_1 (231 + 1) 0 (by omega) (by omega)
  · skip
    refine G.iconst (pc := 8) cx dX10_record_8 (v := 0) (by decide) ?_
    refine G.istore_n (pc := 9) cx dX10_record_9 rfl (by decide) rfl ?_
    have L10_2 : ∀ (f k10 : Nat), 693 - k10 < f → k10 ≤ 693 → G K p9 l e9 (rmL 0 0 0) s9 m9 a9 b9 t9 c9 (MQ b9 (QCt K none (mw K o z (rRec r n r.1) V) sz) a9 s9 0 0 (kA K)) 3 (mw K o z (r.1, bSh r.2.1 k10, r.2.2.1, r.2.2.2.1, r.2.2.2.2) V) sz 0 0 10 [(0, .ref o), (1, .ref (o + 2)), (2, .int (nI k10))] [] := by
      intro f
      induction f with
      | zero => intro k10 h9; omega
      | succ f ih10 =>
        intro k10 h910 h810
        refine G.iload_n (pc := 10) cx dX10_record_10 rfl 2 rfl ?_
        refine G.sipush (pc := 11) cx dX10_record_11 (v := 693) (by decide) ?_
        refine G.icmp_geN (pc := 14) cx k10 693 (by omega) (by omega) dX10_record_14 (tgt := 39) (by decide) (fun cq14 => ?_) (fun cq14 => ?_)
        · skip
          have ex10 : k10 = 693 := by omega
          try rw [ex10]
          refine G.aload_n (pc := 39) cx dX10_record_39 rfl 0 rfl ?_
          refine G.dup (pc := 40) cx dX10_record_40 rfl ?_
          refine G.getM (pc := 41) cx dX10_record_41 3 wm_fl_X10_33 (by decide) (congrArg (fun x => some (Value.int x)) (hn)) ?_
          refine G.iconst (pc := 44) cx dX10_record_44 (v := 1) (by decide) ?_
          refine G.isubN (pc := 45) cx dX10_record_45 n 1 (by omega) ?_
          refine G.putM (pc := 46) cx dX10_record_46 3 0 wm_fl_X10_33 (by decide) rfl ?_
          refine G.iconst (pc := 49) cx dX10_record_49 (v := 0) (by decide) ?_
          refine G.istore_n (pc := 50) cx dX10_record_50 rfl (by decide) rfl ?_
          have L51_3 : ∀ (f k51 : Nat), 231 - k51 < f → k51 ≤ 231 → G K p9 l e9 (rmL 0 0 0) s9 m9 a9 b9 t9 c9 (MQ b9 (QCt K none (mw K o z (rRec r n r.1) V) sz) a9 s9 0 0 (kA K)) 3 (mw K o z (r.1, bCp (bSh r.2.1 693) (n - 1) r.1 k51, r.2.2.1, r.2.2.2.1, upd r.2.2.2.2 0 (nI (n - 1))) V) sz 0 0 51 [(0, .ref o), (1, .ref (o + 2)), (2, .int (nI k51))] [] := by
            intro f
            induction f with
            | zero => intro k51 h9; omega
            | succ f ih51 =>
              intro k51 h951 h851
              refine G.iload_n (pc := 51) cx dX10_record_51 rfl 2 rfl ?_
              refine G.sipush (pc := 52) cx dX10_record_52 (v := 231) (by decide) ?_
              refine G.icmp_geN (pc := 55) cx k51 231 (by omega) (by omega) dX10_record_55 (tgt := 82) (by decide) (fun cq55 => ?_) (fun cq55 => ?_)
              · skip
                have ex51 : k51 = 231 := by omega
                try rw [ex51]
                refine G.aload_n (pc := 82) cx dX10_record_82 rfl 0 rfl ?_
                refine G.dup (pc := 83) cx dX10_record_83 rfl ?_
                refine G.getM (pc := 84) cx dX10_record_84 3 wm_fl_X10_33 (by decide) (congrArg (fun x => some (Value.int x)) (upd_s r.2.2.2.2 0 (nI (n - 1)))) ?_
                refine G.iconst (pc := 87) cx dX10_record_87 (v := 1) (by decide) ?_
                refine G.iaddN (pc := 88) cx dX10_record_88 (n - 1) 1 ?_
                refine G.putM (pc := 89) cx dX10_record_89 3 0 wm_fl_X10_33 (by decide) rfl ?_
                refine G.vret (pc := 92) cx rfl dX10_record_92 rfl ?_ rfl
                · show _ = _
                  (try clear L51_3); (try clear ih51); (try clear L10_2); (try clear ih10); (try clear L51_1); (try clear ih51); (try clear hin9); (try clear cx); first | (subst cq5; simp [rRec, recB, recN, upd_upd]; done) | (simp [rRec, recB, recN, upd_upd, cq5]; done)
              · skip
                refine G.aload_n (pc := 58) cx dX10_record_58 rfl 0 rfl ?_
                refine G.getM (pc := 59) cx dX10_record_59 2 wm_fl_X10_16 (by decide) rfl ?_
                refine G.sipush (pc := 62) cx dX10_record_62 (v := 231) (by decide) ?_
                refine G.aload_n (pc := 65) cx dX10_record_65 rfl 0 rfl ?_
                refine G.getM (pc := 66) cx dX10_record_66 3 wm_fl_X10_33 (by decide) (congrArg (fun x => some (Value.int x)) (upd_s r.2.2.2.2 0 (nI (n - 1)))) ?_
                refine G.imulN (pc := 69) cx dX10_record_69 231 (n - 1) ?_
                refine G.iload_n (pc := 70) cx dX10_record_70 rfl 2 rfl ?_
                refine G.iaddN (pc := 71) cx dX10_record_71 (231 * (n - 1)) k51 ?_
                refine G.aload_n (pc := 72) cx dX10_record_72 rfl 1 rfl ?_
                refine G.iload_n (pc := 73) cx dX10_record_73 rfl 2 rfl ?_
                refine G.ialdV (pc := 74) cx dX10_record_74 mw_as (j := k51) rfl (by omega) (by decide) (cut_at (by omega)) ?_
                refine G.iastC (pc := 75) cx dX10_record_75 mw_be (j := ((231 * (n - 1)) + k51)) rfl (by omega) (by decide) mwBe ?_
                refine G.iinc (pc := 76) cx dX10_record_76 (v := nI (k51 + 1)) (k := 2) rfl (nI_add k51 1) (by decide) rfl ?_
                refine G.goto (pc := 79) cx dX10_record_79 (tgt := 51) (by decide) ?_
                refine G.cast (V' := (mw K o z (r.1, bCp (bSh r.2.1 693) (n - 1) r.1 (k51 + 1), r.2.2.1, r.2.2.2.1, upd r.2.2.2.2 0 (nI (n - 1))) V)) (congrArg (fun q9 => mw K o z (r.1, q9, r.2.2.1, r.2.2.2.1, upd r.2.2.2.2 0 (nI (n - 1))) V) (by exact bCp_s _ _ _ _)) ?_
                refine G.castL (lv' := [(0, .ref o), (1, .ref (o + 2)), (2, .int (nI (k51 + 1)))]) [1, 2, 0] rfl ?_
                exact ih51 (k51 + 1) (by omega) (by omega)
          refine G.cast (V' := (mw K o z (r.1, bCp (bSh r.2.1 693) (n - 1) r.1 0, r.2.2.1, r.2.2.2.1, upd r.2.2.2.2 0 (nI (n - 1))) V)) (congrArg (fun q9 => mw K o z (r.1, q9, r.2.2.1, r.2.2.2.1, upd r.2.2.2.2 0 (nI (n - 1))) V) (by first | exact (bCp_0 _ _ _).symm | rfl)) ?_
          refine G.castL (lv' := [(0, .ref o), (1, .ref (o + 2)), (2, .int 0)]) [1, 2, 0] rfl ?_
          refine G.lv0 (lv2 := [(0, .ref o), (1, .ref (o + 2)), (2, .int (nI 0))]) (congrArg (fun q9 => ([(0, .ref o), (1, .ref (o + 2)), (2, .int q9)] : List (Nat × Value))) (show (0 : Int32) = nI 0 from by first | exact (bCp_0 _ _ _).symm | rfl)) ?_
          exact L51_3 (231 + 1) 0 (by omega) (by omega)
        · skip
          refine G.aload_n (pc := 17) cx dX10_record_17 rfl 0 rfl ?_
          refine G.getM (pc := 18) cx dX10_record_18 2 wm_fl_X10_16 (by decide) rfl ?_
          refine G.iload_n (pc := 21) cx dX10_record_21 rfl 2 rfl ?_
          refine G.aload_n (pc := 22) cx dX10_record_22 rfl 0 rfl ?_
          refine G.getM (pc := 23) cx dX10_record_23 2 wm_fl_X10_16 (by decide) rfl ?_
          refine G.sipush (pc := 26) cx dX10_record_26 (v := 231) (by decide) ?_
          refine G.iload_n (pc := 29) cx dX10_record_29 rfl 2 rfl ?_
          refine G.iaddN (pc := 30) cx dX10_record_30 231 k10 ?_
          refine G.ialdV (pc := 31) cx dX10_record_31 mw_be (j := (231 + k10)) rfl (by omega) (by decide) (cut_at (by omega)) ?_
          refine G.iastC (pc := 32) cx dX10_record_32 mw_be (j := k10) rfl (by omega) (by decide) mwBe ?_
          refine G.iinc (pc := 33) cx dX10_record_33 (v := nI (k10 + 1)) (k := 2) rfl (nI_add k10 1) (by decide) rfl ?_
          refine G.goto (pc := 36) cx dX10_record_36 (tgt := 10) (by decide) ?_
          refine G.cast (V' := (mw K o z (r.1, bSh r.2.1 (k10 + 1), r.2.2.1, r.2.2.2.1, r.2.2.2.2) V)) (congrArg (fun q9 => mw K o z (r.1, q9, r.2.2.1, r.2.2.2.1, r.2.2.2.2) V) (by exact bSh_s _ _)) ?_
          refine G.castL (lv' := [(0, .ref o), (1, .ref (o + 2)), (2, .int (nI (k10 + 1)))]) [1, 2, 0] rfl ?_
          exact ih10 (k10 + 1) (by omega) (by omega)
    refine G.cast (V' := (mw K o z (r.1, bSh r.2.1 0, r.2.2.1, r.2.2.2.1, r.2.2.2.2) V)) (congrArg (fun q9 => mw K o z (r.1, q9, r.2.2.1, r.2.2.2.1, r.2.2.2.2) V) (by first | exact (bSh_0 _).symm | rfl)) ?_
    refine G.castL (lv' := [(0, .ref o), (1, .ref (o + 2)), (2, .int 0)]) [1, 2, 0] rfl ?_
    refine G.lv0 (lv2 := [(0, .ref o), (1, .ref (o + 2)), (2, .int (nI 0))]) (congrArg (fun q9 => ([(0, .ref o), (1, .ref (o + 2)), (2, .int q9)] : List (Nat × Value))) (show (0 : Int32) = nI 0 from by first | exact (bSh_0 _).symm | rfl)) ?_
    exact L10_2 (693 + 1) 0 (by omega) (by omega)
set_option maxHeartbeats 4000000 in
set_option maxRecDepth 100000 in
theorem c_X10_putAside (l : Launch) (K : KT) (sz : Nat) (o : Nat) (z : Zt) (r : Rt) (V : VW)  : Ct l K yX10_putAside cX10_putAside 2 none 0 [.ref o] (mw K o z r V) sz none (mw K o z (z, r.2.1, r.2.2.1, r.2.2.2.1, r.2.2.2.2) V) sz 0 0 := by
  refine Ct.ofG (by decide) (Nat.le_of_ble_eq_true rfl) ?_
  intro p9 e9 s9 m9 a9 b9 t9 c9 cx hin9
  refine G.lv0 (lv2 := [(0, .ref o)]) rfl ?_
  refine G.iconst (pc := 0) cx dX10_putAside_0 (v := 0) (by decide) ?_
  refine G.istore_n (pc := 1) cx dX10_putAside_1 rfl (by decide) rfl ?_
  have L2_1 : ∀ (f k2 : Nat), 231 - k2 < f → k2 ≤ 231 → G K p9 l e9 (rmL 0 0 0) s9 m9 a9 b9 t9 c9 (MQ b9 (QCt K none (mw K o z (z, r.2.1, r.2.2.1, r.2.2.2.1, r.2.2.2.2) V) sz) a9 s9 0 0 (kA K)) 2 (mw K o z (cpF r.1 z k2, r.2.1, r.2.2.1, r.2.2.2.1, r.2.2.2.2) V) sz 0 0 2 [(0, .ref o), (1, .int (nI k2))] [] := by
    intro f
    induction f with
    | zero => intro k2 h9; omega
    | succ f ih2 =>
      intro k2 h92 h82
      refine G.iload_n (pc := 2) cx dX10_putAside_2 rfl 1 rfl ?_
      refine G.sipush (pc := 3) cx dX10_putAside_3 (v := 231) (by decide) ?_
      refine G.icmp_geN (pc := 6) cx k2 231 (by omega) (by omega) dX10_putAside_6 (tgt := 27) (by decide) (fun cq6 => ?_) (fun cq6 => ?_)
      · skip
        have ex2 : k2 = 231 := by omega
        try rw [ex2]
        refine G.vret (pc := 27) cx rfl dX10_putAside_27 rfl ?_ rfl
        · show _ = _
          (try clear L2_1); (try clear ih2); (try clear hin9); (try clear cx); exact mw_aside
      · skip
        refine G.aload_n (pc := 9) cx dX10_putAside_9 rfl 0 rfl ?_
        refine G.getM (pc := 10) cx dX10_putAside_10 1 wm_fl_X10_13 (by decide) rfl ?_
        refine G.iload_n (pc := 13) cx dX10_putAside_13 rfl 1 rfl ?_
        refine G.aload_n (pc := 14) cx dX10_putAside_14 rfl 0 rfl ?_
        refine G.getM (pc := 15) cx dX10_putAside_15 0 wm_fl_X10_7 (by decide) rfl ?_
        refine G.iload_n (pc := 18) cx dX10_putAside_18 rfl 1 rfl ?_
        refine G.ialdV (pc := 19) cx dX10_putAside_19 mw_z (j := k2) rfl (by omega) (by decide) (cut_at (by omega)) ?_
        refine G.iastC (pc := 20) cx dX10_putAside_20 mw_as (j := k2) rfl (by omega) (by decide) mwAs ?_
        refine G.iinc (pc := 21) cx dX10_putAside_21 (v := nI (k2 + 1)) (k := 1) rfl (nI_add k2 1) (by decide) rfl ?_
        refine G.goto (pc := 24) cx dX10_putAside_24 (tgt := 2) (by decide) ?_
        refine G.cast (V' := (mw K o z (cpF r.1 z (k2 + 1), r.2.1, r.2.2.1, r.2.2.2.1, r.2.2.2.2) V)) (congrArg (fun q9 => mw K o z (q9, r.2.1, r.2.2.1, r.2.2.2.1, r.2.2.2.2) V) (by exact cpF_s _ _ _)) ?_
        refine G.castL (lv' := [(0, .ref o), (1, .int (nI (k2 + 1)))]) [1, 0] rfl ?_
        exact ih2 (k2 + 1) (by omega) (by omega)
  refine G.cast (V' := (mw K o z (cpF r.1 z 0, r.2.1, r.2.2.1, r.2.2.2.1, r.2.2.2.2) V)) (congrArg (fun q9 => mw K o z (q9, r.2.1, r.2.2.1, r.2.2.2.1, r.2.2.2.2) V) (by first | exact (cpF_0 _ _).symm | rfl)) ?_
  refine G.castL (lv' := [(0, .ref o), (1, .int 0)]) [1, 0] rfl ?_
  refine G.lv0 (lv2 := [(0, .ref o), (1, .int (nI 0))]) (congrArg (fun q9 => ([(0, .ref o), (1, .int q9)] : List (Nat × Value))) (show (0 : Int32) = nI 0 from by first | exact (cpF_0 _ _).symm | rfl)) ?_
  exact L2_1 (231 + 1) 0 (by omega) (by omega)
set_option maxHeartbeats 4000000 in
set_option maxRecDepth 100000 in
theorem c_X10_putBack (l : Launch) (K : KT) (sz : Nat) (o : Nat) (z : Zt) (r : Rt) (V : VW)  : Ct l K yX10_putBack cX10_putBack 2 none 0 [.ref o] (mw K o z r V) sz none (mw K o r.1 r V) sz 0 0 := by
  refine Ct.ofG (by decide) (Nat.le_of_ble_eq_true rfl) ?_
  intro p9 e9 s9 m9 a9 b9 t9 c9 cx hin9
  refine G.lv0 (lv2 := [(0, .ref o)]) rfl ?_
  refine G.iconst (pc := 0) cx dX10_putBack_0 (v := 0) (by decide) ?_
  refine G.istore_n (pc := 1) cx dX10_putBack_1 rfl (by decide) rfl ?_
  have L2_1 : ∀ (f k2 : Nat), 231 - k2 < f → k2 ≤ 231 → G K p9 l e9 (rmL 0 0 0) s9 m9 a9 b9 t9 c9 (MQ b9 (QCt K none (mw K o r.1 r V) sz) a9 s9 0 0 (kA K)) 2 (mw K o (cpF z r.1 k2) r V) sz 0 0 2 [(0, .ref o), (1, .int (nI k2))] [] := by
    intro f
    induction f with
    | zero => intro k2 h9; omega
    | succ f ih2 =>
      intro k2 h92 h82
      refine G.iload_n (pc := 2) cx dX10_putBack_2 rfl 1 rfl ?_
      refine G.sipush (pc := 3) cx dX10_putBack_3 (v := 231) (by decide) ?_
      refine G.icmp_geN (pc := 6) cx k2 231 (by omega) (by omega) dX10_putBack_6 (tgt := 27) (by decide) (fun cq6 => ?_) (fun cq6 => ?_)
      · skip
        have ex2 : k2 = 231 := by omega
        try rw [ex2]
        refine G.vret (pc := 27) cx rfl dX10_putBack_27 rfl ?_ rfl
        · show _ = _
          (try clear L2_1); (try clear ih2); (try clear hin9); (try clear cx); exact mw_eq (fun i hi => by simp [cpF, hi])
      · skip
        refine G.aload_n (pc := 9) cx dX10_putBack_9 rfl 0 rfl ?_
        refine G.getM (pc := 10) cx dX10_putBack_10 0 wm_fl_X10_7 (by decide) rfl ?_
        refine G.iload_n (pc := 13) cx dX10_putBack_13 rfl 1 rfl ?_
        refine G.aload_n (pc := 14) cx dX10_putBack_14 rfl 0 rfl ?_
        refine G.getM (pc := 15) cx dX10_putBack_15 1 wm_fl_X10_13 (by decide) rfl ?_
        refine G.iload_n (pc := 18) cx dX10_putBack_18 rfl 1 rfl ?_
        refine G.ialdV (pc := 19) cx dX10_putBack_19 mw_as (j := k2) rfl (by omega) (by decide) (cut_at (by omega)) ?_
        refine G.iastC (pc := 20) cx dX10_putBack_20 mw_z (j := k2) rfl (by omega) (by decide) mwZ ?_
        refine G.iinc (pc := 21) cx dX10_putBack_21 (v := nI (k2 + 1)) (k := 1) rfl (nI_add k2 1) (by decide) rfl ?_
        refine G.goto (pc := 24) cx dX10_putBack_24 (tgt := 2) (by decide) ?_
        refine G.cast (V' := (mw K o (cpF z r.1 (k2 + 1)) r V)) (congrArg (fun q9 => mw K o q9 r V) (by exact cpF_s _ _ _)) ?_
        refine G.castL (lv' := [(0, .ref o), (1, .int (nI (k2 + 1)))]) [1, 0] rfl ?_
        exact ih2 (k2 + 1) (by omega) (by omega)
  refine G.cast (V' := (mw K o (cpF z r.1 0) r V)) (congrArg (fun q9 => mw K o q9 r V) (by first | exact (cpF_0 _ _).symm | rfl)) ?_
  refine G.castL (lv' := [(0, .ref o), (1, .int 0)]) [1, 0] rfl ?_
  refine G.lv0 (lv2 := [(0, .ref o), (1, .int (nI 0))]) (congrArg (fun q9 => ([(0, .ref o), (1, .int q9)] : List (Nat × Value))) (show (0 : Int32) = nI 0 from by first | exact (cpF_0 _ _).symm | rfl)) ?_
  exact L2_1 (231 + 1) 0 (by omega) (by omega)
set_option maxHeartbeats 4000000 in
set_option maxRecDepth 100000 in
theorem c_X10_undo0 (l : Launch) (K : KT) (sz : Nat) (o : Nat) (z : Zt) (r : Rt) (V : VW) (h0 : r.2.2.2.2 0 = 0) : Ct l K yX10_undo cX10_undo 2 (some .int) 0 [.ref o] (mw K o z r V) sz (some (.int (-1000002))) (mw K o z r V) sz 0 0 := by
  refine Ct.ofG (by decide) (Nat.le_of_ble_eq_true rfl) ?_
  intro p9 e9 s9 m9 a9 b9 t9 c9 cx hin9
  refine G.lv0 (lv2 := [(0, .ref o)]) rfl ?_
  refine G.aload_n (pc := 0) cx dX10_undo_0 rfl 0 rfl ?_
  refine G.getM (pc := 1) cx dX10_undo_1 3 wm_fl_X10_33 (by decide) rfl ?_
  refine G.if_ne (pc := 4) cx dX10_undo_4 (tgt := 10) (by decide) (fun cq4 => ?_) (fun cq4 => ?_)
  · skip
    exact absurd cq4 (by first | omega | simp_all)
  · skip
    refine G.ldc (pc := 7) cx dX10_undo_7 (v := (-1000002)) wm_ct_X10_37 ?_
    refine G.iret (pc := 9) cx rfl dX10_undo_9 ?_ ?_ rfl
    · rfl
    · rfl
set_option maxHeartbeats 4000000 in
set_option maxRecDepth 100000 in
theorem c_X10_undo (l : Launch) (K : KT) (sz : Nat) (o : Nat) (z : Zt) (r : Rt) (V : VW) (n : Nat) (hn : r.2.2.2.2 0 = nI n) (h0 : 0 < n ∧ n ≤ 4) : Ct l K yX10_undo cX10_undo 2 (some .int) 0 [.ref o] (mw K o z r V) sz (some (.int (nI (n - 1)))) (mw K o (fun i => r.2.1 (231 * (n - 1) + i)) (r.1, r.2.1, r.2.2.1, r.2.2.2.1, upd r.2.2.2.2 0 (nI (n - 1))) V) sz 0 0 := by
  refine Ct.ofG (by decide) (Nat.le_of_ble_eq_true rfl) ?_
  intro p9 e9 s9 m9 a9 b9 t9 c9 cx hin9
  refine G.lv0 (lv2 := [(0, .ref o)]) rfl ?_
  refine G.aload_n (pc := 0) cx dX10_undo_0 rfl 0 rfl ?_
  refine G.getM (pc := 1) cx dX10_undo_1 3 wm_fl_X10_33 (by decide) (congrArg (fun x => some (Value.int x)) (hn)) ?_
  refine G.if_neN (pc := 4) cx n (by omega) dX10_undo_4 (tgt := 10) (by decide) (fun cq4 => ?_) (fun cq4 => ?_)
  · skip
    refine G.aload_n (pc := 10) cx dX10_undo_10 rfl 0 rfl ?_
    refine G.dup (pc := 11) cx dX10_undo_11 rfl ?_
    refine G.getM (pc := 12) cx dX10_undo_12 3 wm_fl_X10_33 (by decide) (congrArg (fun x => some (Value.int x)) (hn)) ?_
    refine G.iconst (pc := 15) cx dX10_undo_15 (v := 1) (by decide) ?_
    refine G.isubN (pc := 16) cx dX10_undo_16 n 1 (by omega) ?_
    refine G.putM (pc := 17) cx dX10_undo_17 3 0 wm_fl_X10_33 (by decide) rfl ?_
    refine G.iconst (pc := 20) cx dX10_undo_20 (v := 0) (by decide) ?_
    refine G.istore_n (pc := 21) cx dX10_undo_21 rfl (by decide) rfl ?_
    have L22_1 : ∀ (f k22 : Nat), 231 - k22 < f → k22 ≤ 231 → G K p9 l e9 (rmL 0 0 0) s9 m9 a9 b9 t9 c9 (MQ b9 (QCt K (some (.int (nI (n - 1)))) (mw K o (fun i => r.2.1 (231 * (n - 1) + i)) (r.1, r.2.1, r.2.2.1, r.2.2.2.1, upd r.2.2.2.2 0 (nI (n - 1))) V) sz) a9 s9 0 0 (kA K)) 2 (mw K o (cpF z (fun i => r.2.1 (231 * (n - 1) + i)) k22) (r.1, r.2.1, r.2.2.1, r.2.2.2.1, upd r.2.2.2.2 0 (nI (n - 1))) V) sz 0 0 22 [(0, .ref o), (1, .int (nI k22))] [] := by
      intro f
      induction f with
      | zero => intro k22 h9; omega
      | succ f ih22 =>
        intro k22 h922 h822
        refine G.iload_n (pc := 22) cx dX10_undo_22 rfl 1 rfl ?_
        refine G.sipush (pc := 23) cx dX10_undo_23 (v := 231) (by decide) ?_
        refine G.icmp_geN (pc := 26) cx k22 231 (by omega) (by omega) dX10_undo_26 (tgt := 56) (by decide) (fun cq26 => ?_) (fun cq26 => ?_)
        · skip
          have ex22 : k22 = 231 := by omega
          try rw [ex22]
          refine G.aload_n (pc := 56) cx dX10_undo_56 rfl 0 rfl ?_
          refine G.getM (pc := 57) cx dX10_undo_57 3 wm_fl_X10_33 (by decide) (congrArg (fun x => some (Value.int x)) (upd_s r.2.2.2.2 0 (nI (n - 1)))) ?_
          refine G.iret (pc := 60) cx rfl dX10_undo_60 ?_ ?_ rfl
          · rfl
          · show _ = _
            (try clear L22_1); (try clear ih22); (try clear hin9); (try clear cx); exact mw_eq (fun i hi => by simp [cpF, hi])
        · skip
          refine G.aload_n (pc := 29) cx dX10_undo_29 rfl 0 rfl ?_
          refine G.getM (pc := 30) cx dX10_undo_30 0 wm_fl_X10_7 (by decide) rfl ?_
          refine G.iload_n (pc := 33) cx dX10_undo_33 rfl 1 rfl ?_
          refine G.aload_n (pc := 34) cx dX10_undo_34 rfl 0 rfl ?_
          refine G.getM (pc := 35) cx dX10_undo_35 2 wm_fl_X10_16 (by decide) rfl ?_
          refine G.sipush (pc := 38) cx dX10_undo_38 (v := 231) (by decide) ?_
          refine G.aload_n (pc := 41) cx dX10_undo_41 rfl 0 rfl ?_
          refine G.getM (pc := 42) cx dX10_undo_42 3 wm_fl_X10_33 (by decide) (congrArg (fun x => some (Value.int x)) (upd_s r.2.2.2.2 0 (nI (n - 1)))) ?_
          refine G.imulN (pc := 45) cx dX10_undo_45 231 (n - 1) ?_
          refine G.iload_n (pc := 46) cx dX10_undo_46 rfl 1 rfl ?_
          refine G.iaddN (pc := 47) cx dX10_undo_47 (231 * (n - 1)) k22 ?_
          refine G.ialdV (pc := 48) cx dX10_undo_48 mw_be (j := ((231 * (n - 1)) + k22)) rfl (by omega) (by decide) (cut_at (by omega)) ?_
          refine G.iastC (pc := 49) cx dX10_undo_49 mw_z (j := k22) rfl (by omega) (by decide) mwZ ?_
          refine G.iinc (pc := 50) cx dX10_undo_50 (v := nI (k22 + 1)) (k := 1) rfl (nI_add k22 1) (by decide) rfl ?_
          refine G.goto (pc := 53) cx dX10_undo_53 (tgt := 22) (by decide) ?_
          refine G.cast (V' := (mw K o (cpF z (fun i => r.2.1 (231 * (n - 1) + i)) (k22 + 1)) (r.1, r.2.1, r.2.2.1, r.2.2.2.1, upd r.2.2.2.2 0 (nI (n - 1))) V)) (congrArg (fun q9 => mw K o q9 (r.1, r.2.1, r.2.2.1, r.2.2.2.1, upd r.2.2.2.2 0 (nI (n - 1))) V) (by exact cpF_s z (fun i => r.2.1 (231 * (n - 1) + i)) k22)) ?_
          refine G.castL (lv' := [(0, .ref o), (1, .int (nI (k22 + 1)))]) [1, 0] rfl ?_
          exact ih22 (k22 + 1) (by omega) (by omega)
    refine G.cast (V' := (mw K o (cpF z (fun i => r.2.1 (231 * (n - 1) + i)) 0) (r.1, r.2.1, r.2.2.1, r.2.2.2.1, upd r.2.2.2.2 0 (nI (n - 1))) V)) (congrArg (fun q9 => mw K o q9 (r.1, r.2.1, r.2.2.1, r.2.2.2.1, upd r.2.2.2.2 0 (nI (n - 1))) V) (by first | exact (cpF_0 _ _).symm | rfl)) ?_
    refine G.castL (lv' := [(0, .ref o), (1, .int 0)]) [1, 0] rfl ?_
    refine G.lv0 (lv2 := [(0, .ref o), (1, .int (nI 0))]) (congrArg (fun q9 => ([(0, .ref o), (1, .int q9)] : List (Nat × Value))) (show (0 : Int32) = nI 0 from by first | exact (cpF_0 _ _).symm | rfl)) ?_
    exact L22_1 (231 + 1) 0 (by omega) (by omega)
  · skip
    exact absurd cq4 (by first | omega | simp_all)
