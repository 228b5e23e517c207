set_option maxHeartbeats 4000000 in
set_option maxRecDepth 100000 in
theorem c_X10_in (l : Launch) (K : KT) (sz : Nat) (v : Int32) (lo : Int32) (hi : Int32) (V : VW)  : Ct l K yX10_in cX10_in 3 (some .boolean) 0 [.int v, .int lo, .int hi] V sz (some (.int (b2 (lo ≤ v ∧ v ≤ hi)))) V sz 0 0 := by
  refine Ct.ofG (by decide) (Nat.le_of_ble_eq_true rfl) ?_
  intro p9 e9 s9 m9 a9 b9 t9 c9 cx hin9
  refine G.lv0 (lv2 := [(0, .int v), (1, .int lo), (2, .int hi)]) rfl ?_
  refine G.iload_n (pc := 0) cx dX10_in_0 rfl 0 rfl ?_
  refine G.iload_n (pc := 1) cx dX10_in_1 rfl 1 rfl ?_
  refine G.icmp_lt (pc := 2) cx dX10_in_2 (tgt := 14) (by decide) (fun c2 => ?_) (fun c2 => ?_)
  · skip
    refine G.iconst (pc := 14) cx dX10_in_14 (v := 0) (by decide) ?_
    refine G.zret (pc := 15) cx rfl dX10_in_15 rfl ?_ ?_ rfl
    · refine congrArg (fun x => some (Value.int x)) ?_
      first | rfl | (refine b2_t ?_; grind) | (refine b2_f ?_; grind) | (simp [*, b2, Int32.not_lt, Int32.not_le]; done) | (simp_all [b2, Int32.not_lt, Int32.not_le]; done) | grind [b2, Int32.not_lt, Int32.not_le]
    · rfl
  · skip
    refine G.iload_n (pc := 5) cx dX10_in_5 rfl 0 rfl ?_
    refine G.iload_n (pc := 6) cx dX10_in_6 rfl 2 rfl ?_
    refine G.icmp_gt (pc := 7) cx dX10_in_7 (tgt := 14) (by decide) (fun c7 => ?_) (fun c7 => ?_)
    · skip
      refine G.iconst (pc := 14) cx dX10_in_14 (v := 0) (by decide) ?_
      refine G.zret (pc := 15) cx rfl dX10_in_15 rfl ?_ ?_ rfl
      · refine congrArg (fun x => some (Value.int x)) ?_
        first | rfl | (refine b2_t ?_; grind) | (refine b2_f ?_; grind) | (simp [*, b2, Int32.not_lt, Int32.not_le]; done) | (simp_all [b2, Int32.not_lt, Int32.not_le]; done) | grind [b2, Int32.not_lt, Int32.not_le]
      · rfl
    · skip
      refine G.iconst (pc := 10) cx dX10_in_10 (v := 1) (by decide) ?_
      refine G.goto (pc := 11) cx dX10_in_11 (tgt := 15) (by decide) ?_
      refine G.zret (pc := 15) cx rfl dX10_in_15 rfl ?_ ?_ rfl
      · refine congrArg (fun x => some (Value.int x)) ?_
        first | rfl | (refine b2_t ?_; grind) | (refine b2_f ?_; grind) | (simp [*, b2, Int32.not_lt, Int32.not_le]; done) | (simp_all [b2, Int32.not_lt, Int32.not_le]; done) | grind [b2, Int32.not_lt, Int32.not_le]
      · rfl
set_option maxHeartbeats 4000000 in
set_option maxRecDepth 100000 in
theorem c_X10_of (l : Launch) (K : KT) (sz : Nat) (o : Nat) (z : Zt) (r : Rt) (V : VW) (k : Nat) (w : Nat) (h : 10 * k + w < 231) : Ct l K yX10_of cX10_of 3 (some .int) 0 [.ref o, .int (nI k), .int (nI w)] (mw K o z r V) sz (some (.int (z (10 * k + w)))) (mw K o z r V) sz 0 0 := by
  refine Ct.ofG (by decide) (Nat.le_of_ble_eq_true rfl) ?_
  intro p9 e9 s9 m9 a9 b9 t9 c9 cx hin9
  refine G.lv0 (lv2 := [(0, .ref o), (1, .int (nI k)), (2, .int (nI w))]) rfl ?_
  refine G.aload_n (pc := 0) cx dX10_of_0 rfl 0 rfl ?_
  refine G.getM (pc := 1) cx dX10_of_1 0 wm_fl_X10_7 (by decide) rfl ?_
  refine G.bipush (pc := 4) cx dX10_of_4 (v := 10) (by decide) ?_
  refine G.iload_n (pc := 6) cx dX10_of_6 rfl 1 rfl ?_
  refine G.imulN (pc := 7) cx dX10_of_7 10 k ?_
  refine G.iload_n (pc := 8) cx dX10_of_8 rfl 2 rfl ?_
  refine G.iaddN (pc := 9) cx dX10_of_9 (10 * k) w ?_
  refine G.ialdV (pc := 10) cx dX10_of_10 mw_z (j := ((10 * k) + w)) rfl (by omega) (by decide) (cut_at (by omega)) ?_
  refine G.iret (pc := 11) cx rfl dX10_of_11 ?_ ?_ rfl
  · refine congrArg (fun x => some (Value.int x)) ?_
    first | rfl | (refine b2_t ?_; grind) | (refine b2_f ?_; grind) | (simp [*]; done) | (simp_all; done) | grind
  · rfl
set_option maxHeartbeats 4000000 in
set_option maxRecDepth 100000 in
theorem c_X10_put (l : Launch) (K : KT) (sz : Nat) (o : Nat) (z : Zt) (r : Rt) (V : VW) (k : Nat) (w : Nat) (x : Int32) (h : 10 * k + w < 231) : Ct l K yX10_put cX10_put 4 none 0 [.ref o, .int (nI k), .int (nI w), .int x] (mw K o z r V) sz none (mw K o (upd z (10 * k + w) x) r V) sz 0 0 := by
  refine Ct.ofG (by decide) (Nat.le_of_ble_eq_true rfl) ?_
  intro p9 e9 s9 m9 a9 b9 t9 c9 cx hin9
  refine G.lv0 (lv2 := [(0, .ref o), (1, .int (nI k)), (2, .int (nI w)), (3, .int x)]) rfl ?_
  refine G.aload_n (pc := 0) cx dX10_put_0 rfl 0 rfl ?_
  refine G.getM (pc := 1) cx dX10_put_1 0 wm_fl_X10_7 (by decide) rfl ?_
  refine G.bipush (pc := 4) cx dX10_put_4 (v := 10) (by decide) ?_
  refine G.iload_n (pc := 6) cx dX10_put_6 rfl 1 rfl ?_
  refine G.imulN (pc := 7) cx dX10_put_7 10 k ?_
  refine G.iload_n (pc := 8) cx dX10_put_8 rfl 2 rfl ?_
  refine G.iaddN (pc := 9) cx dX10_put_9 (10 * k) w ?_
  refine G.iload_n (pc := 10) cx dX10_put_10 rfl 3 rfl ?_
  refine G.iastC (pc := 11) cx dX10_put_11 mw_z (j := ((10 * k) + w)) rfl (by omega) (by decide) mwZ ?_
  refine G.vret (pc := 12) cx rfl dX10_put_12 rfl ?_ rfl
  · refine congrArg (fun x => mw K o x r V) ?_
    first | rfl | (refine b2_t ?_; grind) | (refine b2_f ?_; grind) | (simp [*]; done) | (simp_all; done) | grind
set_option maxHeartbeats 4000000 in
set_option maxRecDepth 100000 in
theorem c_X10_ofItem (l : Launch) (K : KT) (sz : Nat) (o : Nat) (z : Zt) (r : Rt) (V : VW) (k : Nat) (w : Nat) (h : 160 + 5 * k + w < 231) : Ct l K yX10_ofItem cX10_ofItem 3 (some .int) 0 [.ref o, .int (nI k), .int (nI w)] (mw K o z r V) sz (some (.int (z (160 + 5 * k + w)))) (mw K o z r V) sz 0 0 := by
  refine Ct.ofG (by decide) (Nat.le_of_ble_eq_true rfl) ?_
  intro p9 e9 s9 m9 a9 b9 t9 c9 cx hin9
  refine G.lv0 (lv2 := [(0, .ref o), (1, .int (nI k)), (2, .int (nI w))]) rfl ?_
  refine G.aload_n (pc := 0) cx dX10_ofItem_0 rfl 0 rfl ?_
  refine G.getM (pc := 1) cx dX10_ofItem_1 0 wm_fl_X10_7 (by decide) rfl ?_
  refine G.sipush (pc := 4) cx dX10_ofItem_4 (v := 160) (by decide) ?_
  refine G.iconst (pc := 7) cx dX10_ofItem_7 (v := 5) (by decide) ?_
  refine G.iload_n (pc := 8) cx dX10_ofItem_8 rfl 1 rfl ?_
  refine G.imulN (pc := 9) cx dX10_ofItem_9 5 k ?_
  refine G.iaddN (pc := 10) cx dX10_ofItem_10 160 (5 * k) ?_
  refine G.iload_n (pc := 11) cx dX10_ofItem_11 rfl 2 rfl ?_
  refine G.iaddN (pc := 12) cx dX10_ofItem_12 (160 + (5 * k)) w ?_
  refine G.ialdV (pc := 13) cx dX10_ofItem_13 mw_z (j := ((160 + (5 * k)) + w)) rfl (by omega) (by decide) (cut_at (by omega)) ?_
  refine G.iret (pc := 14) cx rfl dX10_ofItem_14 ?_ ?_ rfl
  · refine congrArg (fun x => some (Value.int x)) ?_
    first | rfl | (refine b2_t ?_; grind) | (refine b2_f ?_; grind) | (simp [*]; done) | (simp_all; done) | grind
  · rfl
set_option maxHeartbeats 4000000 in
set_option maxRecDepth 100000 in
theorem c_X10_isAtSea (l : Launch) (K : KT) (sz : Nat) (o : Nat) (z : Zt) (r : Rt) (V : VW)  : Ct l K yX10_isAtSea cX10_isAtSea 1 (some .boolean) 0 [.ref o] (mw K o z r V) sz (some (.int (b2 (z 191 = 1)))) (mw K o z r V) sz 0 0 := by
  refine Ct.ofG (by decide) (Nat.le_of_ble_eq_true rfl) ?_
  intro p9 e9 s9 m9 a9 b9 t9 c9 cx hin9
  refine G.lv0 (lv2 := [(0, .ref o)]) rfl ?_
  refine G.aload_n (pc := 0) cx dX10_isAtSea_0 rfl 0 rfl ?_
  refine G.getM (pc := 1) cx dX10_isAtSea_1 0 wm_fl_X10_7 (by decide) rfl ?_
  refine G.sipush (pc := 4) cx dX10_isAtSea_4 (v := 191) (by decide) ?_
  refine G.ialdV (pc := 7) cx dX10_isAtSea_7 mw_z (j := 191) rfl (by omega) (by decide) (cut_at (by omega)) ?_
  refine G.iconst (pc := 8) cx dX10_isAtSea_8 (v := 1) (by decide) ?_
  refine G.icmp_ne (pc := 9) cx dX10_isAtSea_9 (tgt := 16) (by decide) (fun c9 => ?_) (fun c9 => ?_)
  · skip
    refine G.iconst (pc := 16) cx dX10_isAtSea_16 (v := 0) (by decide) ?_
    refine G.zret (pc := 17) cx rfl dX10_isAtSea_17 rfl ?_ ?_ rfl
    · refine congrArg (fun x => some (Value.int x)) ?_
      first | rfl | (refine b2_t ?_; grind) | (refine b2_f ?_; grind) | (simp [*, b2]; done) | (simp_all [b2]; done) | grind [b2]
    · rfl
  · skip
    refine G.iconst (pc := 12) cx dX10_isAtSea_12 (v := 1) (by decide) ?_
    refine G.goto (pc := 13) cx dX10_isAtSea_13 (tgt := 17) (by decide) ?_
    refine G.zret (pc := 17) cx rfl dX10_isAtSea_17 rfl ?_ ?_ rfl
    · refine congrArg (fun x => some (Value.int x)) ?_
      first | rfl | (refine b2_t ?_; grind) | (refine b2_f ?_; grind) | (simp [*, b2]; done) | (simp_all [b2]; done) | grind [b2]
    · rfl
set_option maxHeartbeats 4000000 in
set_option maxRecDepth 100000 in
theorem c_X10_isGone (l : Launch) (K : KT) (sz : Nat) (o : Nat) (z : Zt) (r : Rt) (V : VW) (k : Nat) (h : k < 16) : Ct l K yX10_isGone cX10_isGone 2 (some .boolean) 1 [.ref o, .int (nI k)] (mw K o z r V) sz (some (.int (b2 (z (10 * k + 2) = 2)))) (mw K o z r V) sz 0 0 := by
  refine Ct.ofG (by decide) (Nat.le_of_ble_eq_true rfl) ?_
  intro p9 e9 s9 m9 a9 b9 t9 c9 cx hin9
  refine G.lv0 (lv2 := [(0, .ref o), (1, .int (nI k))]) rfl ?_
  refine G.aload_n (pc := 0) cx dX10_isGone_0 rfl 0 rfl ?_
  refine G.iload_n (pc := 1) cx dX10_isGone_1 rfl 1 rfl ?_
  refine G.iconst (pc := 2) cx dX10_isGone_2 (v := 2) (by decide) ?_
  refine G.callV0 (pc := 3) (rest := []) (st1 := [.int (z (10 * k + 2))]) cx (c_X10_of l K sz o z r V k 2 (by omega)) ok_X10_of dX10_isGone_3 wm_ml_X10_29 rfl mw_m rfl rfl (Nat.le_of_ble_eq_true rfl) ⟨Nat.le_of_ble_eq_true rfl, Nat.le_of_ble_eq_true rfl⟩ rfl ?_
  refine G.iconst (pc := 6) cx dX10_isGone_6 (v := 2) (by decide) ?_
  refine G.icmp_ne (pc := 7) cx dX10_isGone_7 (tgt := 14) (by decide) (fun c7 => ?_) (fun c7 => ?_)
  · skip
    refine G.iconst (pc := 14) cx dX10_isGone_14 (v := 0) (by decide) ?_
    refine G.zret (pc := 15) cx rfl dX10_isGone_15 rfl ?_ ?_ rfl
    · refine congrArg (fun x => some (Value.int x)) ?_
      first | rfl | (refine b2_t ?_; grind) | (refine b2_f ?_; grind) | (simp [*, b2]; done) | (simp_all [b2]; done) | grind [b2]
    · rfl
  · skip
    refine G.iconst (pc := 10) cx dX10_isGone_10 (v := 1) (by decide) ?_
    refine G.goto (pc := 11) cx dX10_isGone_11 (tgt := 15) (by decide) ?_
    refine G.zret (pc := 15) cx rfl dX10_isGone_15 rfl ?_ ?_ rfl
    · refine congrArg (fun x => some (Value.int x)) ?_
      first | rfl | (refine b2_t ?_; grind) | (refine b2_f ?_; grind) | (simp [*, b2]; done) | (simp_all [b2]; done) | grind [b2]
    · rfl
set_option maxHeartbeats 4000000 in
set_option maxRecDepth 100000 in
theorem c_X10_isSailor (l : Launch) (K : KT) (sz : Nat) (o : Nat) (z : Zt) (r : Rt) (V : VW) (a : Int32)  : Ct l K yX10_isSailor cX10_isSailor 2 (some .boolean) 1 [.ref o, .int a] (mw K o z r V) sz (some (.int (b2 (0 ≤ a ∧ a ≤ z 194 - 1)))) (mw K o z r V) sz 0 0 := by
  refine Ct.ofG (by decide) (Nat.le_of_ble_eq_true rfl) ?_
  intro p9 e9 s9 m9 a9 b9 t9 c9 cx hin9
  refine G.lv0 (lv2 := [(0, .ref o), (1, .int a)]) rfl ?_
  refine G.iload_n (pc := 0) cx dX10_isSailor_0 rfl 1 rfl ?_
  refine G.iconst (pc := 1) cx dX10_isSailor_1 (v := 0) (by decide) ?_
  refine G.aload_n (pc := 2) cx dX10_isSailor_2 rfl 0 rfl ?_
  refine G.getM (pc := 3) cx dX10_isSailor_3 0 wm_fl_X10_7 (by decide) rfl ?_
  refine G.sipush (pc := 6) cx dX10_isSailor_6 (v := 194) (by decide) ?_
  refine G.ialdV (pc := 9) cx dX10_isSailor_9 mw_z (j := 194) rfl (by omega) (by decide) (cut_at (by omega)) ?_
  refine G.iconst (pc := 10) cx dX10_isSailor_10 (v := 1) (by decide) ?_
  refine G.isub (pc := 11) cx dX10_isSailor_11 ?_
  refine G.callS0 (pc := 12) (rest := []) (st1 := [.int (b2 (0 ≤ a ∧ a ≤ ((z 194) - 1)))]) cx (c_X10_in l K sz a 0 ((z 194) - 1) (mw K o z r V)) ok_X10_in dX10_isSailor_12 wm_ml_X10_25 rfl rfl (Nat.le_of_ble_eq_true rfl) ⟨Nat.le_of_ble_eq_true rfl, Nat.le_of_ble_eq_true rfl⟩ rfl ?_
  refine G.zret (pc := 15) cx rfl dX10_isSailor_15 b2_narrow ?_ ?_ rfl
  · refine congrArg (fun x => some (Value.int x)) ?_
    first | rfl | (refine b2_t ?_; grind) | (refine b2_f ?_; grind) | (simp [*]; done) | (simp_all; done) | grind
  · rfl
set_option maxHeartbeats 4000000 in
set_option maxRecDepth 100000 in
theorem c_X10_isItem (l : Launch) (K : KT) (sz : Nat) (a : Int32) (V : VW)  : Ct l K yX10_isItem cX10_isItem 1 (some .boolean) 1 [.int a] V sz (some (.int (b2 (0 ≤ a ∧ a ≤ 5)))) V sz 0 0 := by
  refine Ct.ofG (by decide) (Nat.le_of_ble_eq_true rfl) ?_
  intro p9 e9 s9 m9 a9 b9 t9 c9 cx hin9
  refine G.lv0 (lv2 := [(0, .int a)]) rfl ?_
  refine G.iload_n (pc := 0) cx dX10_isItem_0 rfl 0 rfl ?_
  refine G.iconst (pc := 1) cx dX10_isItem_1 (v := 0) (by decide) ?_
  refine G.iconst (pc := 2) cx dX10_isItem_2 (v := 5) (by decide) ?_
  refine G.callS0 (pc := 3) (rest := []) (st1 := [.int (b2 (0 ≤ a ∧ a ≤ 5))]) cx (c_X10_in l K sz a 0 5 V) ok_X10_in dX10_isItem_3 wm_ml_X10_25 rfl rfl (Nat.le_of_ble_eq_true rfl) ⟨Nat.le_of_ble_eq_true rfl, Nat.le_of_ble_eq_true rfl⟩ rfl ?_
  refine G.zret (pc := 6) cx rfl dX10_isItem_6 b2_narrow ?_ ?_ rfl
  · rfl
  · rfl
set_option maxHeartbeats 4000000 in
set_option maxRecDepth 100000 in
theorem c_X10_wages (l : Launch) (K : KT) (sz : Nat) (q : Int32) (x : Int32) (y : Int32) (V : VW)  : Ct l K yX10_wages cX10_wages 4 (some .int) 0 [.int q, .int x, .int y] V sz (some (.int (zWages q x y))) V sz 0 0 := by
  refine Ct.ofG (by decide) (Nat.le_of_ble_eq_true rfl) ?_
  intro p9 e9 s9 m9 a9 b9 t9 c9 cx hin9
  refine G.lv0 (lv2 := [(0, .int q), (1, .int x), (2, .int y)]) rfl ?_
  refine G.iload_n (pc := 0) cx dX10_wages_0 rfl 1 rfl ?_
  refine G.iload_n (pc := 1) cx dX10_wages_1 rfl 2 rfl ?_
  refine G.iadd (pc := 2) cx dX10_wages_2 ?_
  refine G.istore_n (pc := 3) cx dX10_wages_3 rfl (by decide) rfl ?_
  refine G.iload_n (pc := 4) cx dX10_wages_4 rfl 1 rfl ?_
  refine G.if_ne (pc := 5) cx dX10_wages_5 (tgt := 14) (by decide) (fun c5 => ?_) (fun c5 => ?_)
  · skip
    refine G.iload_n (pc := 14) cx dX10_wages_14 rfl 1 rfl ?_
    refine G.iconst (pc := 15) cx dX10_wages_15 (v := 1) (by decide) ?_
    refine G.icmp_ne (pc := 16) cx dX10_wages_16 (tgt := 27) (by decide) (fun c16 => ?_) (fun c16 => ?_)
    · skip
      refine G.iload_n (pc := 27) cx dX10_wages_27 rfl 1 rfl ?_
      refine G.iconst (pc := 28) cx dX10_wages_28 (v := 2) (by decide) ?_
      refine G.icmp_ne (pc := 29) cx dX10_wages_29 (tgt := 43) (by decide) (fun c29 => ?_) (fun c29 => ?_)
      · skip
        refine G.iconst (pc := 43) cx dX10_wages_43 (v := 4) (by decide) ?_
        refine G.iload_n (pc := 44) cx dX10_wages_44 rfl 2 rfl ?_
        refine G.imul (pc := 45) cx dX10_wages_45 ?_
        refine G.iconst (pc := 46) cx dX10_wages_46 (v := 2) (by decide) ?_
        refine G.iload_n (pc := 47) cx dX10_wages_47 rfl 3 rfl ?_
        refine G.imul (pc := 48) cx dX10_wages_48 ?_
        refine G.iadd (pc := 49) cx dX10_wages_49 ?_
        refine G.iret (pc := 50) cx rfl dX10_wages_50 ?_ ?_ rfl
        · refine congrArg (fun x => some (Value.int x)) ?_
          first | rfl | (refine b2_t ?_; grind) | (refine b2_f ?_; grind) | (simp [*, zWages]; done) | (simp_all [zWages]; done) | grind [zWages]
        · rfl
      · skip
        refine G.iconst (pc := 32) cx dX10_wages_32 (v := 2) (by decide) ?_
        refine G.iload_n (pc := 33) cx dX10_wages_33 rfl 0 rfl ?_
        refine G.imul (pc := 34) cx dX10_wages_34 ?_
        refine G.iload_n (pc := 35) cx dX10_wages_35 rfl 0 rfl ?_
        refine G.bipush (pc := 36) cx dX10_wages_36 (v := 7) (by decide) ?_
        refine G.idiv (pc := 38) cx dX10_wages_38 (by decide) ?_
        refine G.iadd (pc := 39) cx dX10_wages_39 ?_
        refine G.goto (pc := 40) cx dX10_wages_40 (tgt := 50) (by decide) ?_
        refine G.iret (pc := 50) cx rfl dX10_wages_50 ?_ ?_ rfl
        · refine congrArg (fun x => some (Value.int x)) ?_
          first | rfl | (refine b2_t ?_; grind) | (refine b2_f ?_; grind) | (simp [*, zWages]; done) | (simp_all [zWages]; done) | grind [zWages]
        · rfl
    · skip
      refine G.iconst (pc := 19) cx dX10_wages_19 (v := 2) (by decide) ?_
      refine G.iload_n (pc := 20) cx dX10_wages_20 rfl 2 rfl ?_
      refine G.imul (pc := 21) cx dX10_wages_21 ?_
      refine G.iload_n (pc := 22) cx dX10_wages_22 rfl 3 rfl ?_
      refine G.iadd (pc := 23) cx dX10_wages_23 ?_
      refine G.goto (pc := 24) cx dX10_wages_24 (tgt := 50) (by decide) ?_
      refine G.iret (pc := 50) cx rfl dX10_wages_50 ?_ ?_ rfl
      · refine congrArg (fun x => some (Value.int x)) ?_
        first | rfl | (refine b2_t ?_; grind) | (refine b2_f ?_; grind) | (simp [*, zWages]; done) | (simp_all [zWages]; done) | grind [zWages]
      · rfl
  · skip
    refine G.iload_n (pc := 8) cx dX10_wages_8 rfl 0 rfl ?_
    refine G.iconst (pc := 9) cx dX10_wages_9 (v := 2) (by decide) ?_
    refine G.idiv (pc := 10) cx dX10_wages_10 (by decide) ?_
    refine G.goto (pc := 11) cx dX10_wages_11 (tgt := 50) (by decide) ?_
    refine G.iret (pc := 50) cx rfl dX10_wages_50 ?_ ?_ rfl
    · refine congrArg (fun x => some (Value.int x)) ?_
      first | rfl | (refine b2_t ?_; grind) | (refine b2_f ?_; grind) | (simp [*, zWages]; done) | (simp_all [zWages]; done) | grind [zWages]
    · rfl
set_option maxHeartbeats 4000000 in
set_option maxRecDepth 100000 in
theorem c_X10_earned (l : Launch) (K : KT) (sz : Nat) (o : Nat) (z : Zt) (r : Rt) (V : VW) (k : Nat) (h : k < 16) : Ct l K yX10_earned cX10_earned 2 (some .int) 1 [.ref o, .int (nI k)] (mw K o z r V) sz (some (.int (zEarn z k))) (mw K o z r V) sz 0 0 := by
  refine Ct.ofG (by decide) (Nat.le_of_ble_eq_true rfl) ?_
  intro p9 e9 s9 m9 a9 b9 t9 c9 cx hin9
  refine G.lv0 (lv2 := [(0, .ref o), (1, .int (nI k))]) rfl ?_
  refine G.aload_n (pc := 0) cx dX10_earned_0 rfl 0 rfl ?_
  refine G.iload_n (pc := 1) cx dX10_earned_1 rfl 1 rfl ?_
  refine G.iconst (pc := 2) cx dX10_earned_2 (v := 0) (by decide) ?_
  refine G.callV0 (pc := 3) (rest := []) (st1 := [.int (z (10 * k + 0))]) cx (c_X10_of l K sz o z r V k 0 (by omega)) ok_X10_of dX10_earned_3 wm_ml_X10_29 rfl mw_m rfl rfl (Nat.le_of_ble_eq_true rfl) ⟨Nat.le_of_ble_eq_true rfl, Nat.le_of_ble_eq_true rfl⟩ rfl ?_
  refine G.aload_n (pc := 6) cx dX10_earned_6 rfl 0 rfl ?_
  refine G.iload_n (pc := 7) cx dX10_earned_7 rfl 1 rfl ?_
  refine G.iconst (pc := 8) cx dX10_earned_8 (v := 3) (by decide) ?_
  refine G.callV0 (pc := 9) (rest := [.int (z (10 * k + 0))]) (st1 := [.int (z (10 * k + 3)), .int (z (10 * k + 0))]) cx (c_X10_of l K sz o z r V k 3 (by omega)) ok_X10_of dX10_earned_9 wm_ml_X10_29 rfl mw_m rfl rfl (Nat.le_of_ble_eq_true rfl) ⟨Nat.le_of_ble_eq_true rfl, Nat.le_of_ble_eq_true rfl⟩ rfl ?_
  refine G.aload_n (pc := 12) cx dX10_earned_12 rfl 0 rfl ?_
  refine G.iload_n (pc := 13) cx dX10_earned_13 rfl 1 rfl ?_
  refine G.iconst (pc := 14) cx dX10_earned_14 (v := 4) (by decide) ?_
  refine G.callV0 (pc := 15) (rest := [.int (z (10 * k + 3)), .int (z (10 * k + 0))]) (st1 := [.int (z (10 * k + 4)), .int (z (10 * k + 3)), .int (z (10 * k + 0))]) cx (c_X10_of l K sz o z r V k 4 (by omega)) ok_X10_of dX10_earned_15 wm_ml_X10_29 rfl mw_m rfl rfl (Nat.le_of_ble_eq_true rfl) ⟨Nat.le_of_ble_eq_true rfl, Nat.le_of_ble_eq_true rfl⟩ rfl ?_
  refine G.callS0 (pc := 18) (rest := []) (st1 := [.int (zWages (z (10 * k + 0)) (z (10 * k + 3)) (z (10 * k + 4)))]) cx (c_X10_wages l K sz (z (10 * k + 0)) (z (10 * k + 3)) (z (10 * k + 4)) (mw K o z r V)) ok_X10_wages dX10_earned_18 wm_ml_X10_38 rfl rfl (Nat.le_of_ble_eq_true rfl) ⟨Nat.le_of_ble_eq_true rfl, Nat.le_of_ble_eq_true rfl⟩ rfl ?_
  refine G.iret (pc := 21) cx rfl dX10_earned_21 ?_ ?_ rfl
  · refine congrArg (fun x => some (Value.int x)) ?_
    first | rfl | (refine b2_t ?_; grind) | (refine b2_f ?_; grind) | (simp [*]; done) | (simp_all; done) | grind
  · rfl
set_option maxHeartbeats 4000000 in
set_option maxRecDepth 100000 in
theorem c_X10_charged (l : Launch) (K : KT) (sz : Nat) (o : Nat) (z : Zt) (r : Rt) (V : VW) (k : Nat) (h : k < 16) : Ct l K yX10_charged cX10_charged 2 (some .int) 1 [.ref o, .int (nI k)] (mw K o z r V) sz (some (.int (zChg z k))) (mw K o z r V) sz 0 0 := by
  refine Ct.ofG (by decide) (Nat.le_of_ble_eq_true rfl) ?_
  intro p9 e9 s9 m9 a9 b9 t9 c9 cx hin9
  refine G.lv0 (lv2 := [(0, .ref o), (1, .int (nI k))]) rfl ?_
  refine G.aload_n (pc := 0) cx dX10_charged_0 rfl 0 rfl ?_
  refine G.iload_n (pc := 1) cx dX10_charged_1 rfl 1 rfl ?_
  refine G.iconst (pc := 2) cx dX10_charged_2 (v := 5) (by decide) ?_
  refine G.callV0 (pc := 3) (rest := []) (st1 := [.int (z (10 * k + 5))]) cx (c_X10_of l K sz o z r V k 5 (by omega)) ok_X10_of dX10_charged_3 wm_ml_X10_29 rfl mw_m rfl rfl (Nat.le_of_ble_eq_true rfl) ⟨Nat.le_of_ble_eq_true rfl, Nat.le_of_ble_eq_true rfl⟩ rfl ?_
  refine G.aload_n (pc := 6) cx dX10_charged_6 rfl 0 rfl ?_
  refine G.iload_n (pc := 7) cx dX10_charged_7 rfl 1 rfl ?_
  refine G.bipush (pc := 8) cx dX10_charged_8 (v := 6) (by decide) ?_
  refine G.callV0 (pc := 10) (rest := [.int (z (10 * k + 5))]) (st1 := [.int (z (10 * k + 6)), .int (z (10 * k + 5))]) cx (c_X10_of l K sz o z r V k 6 (by omega)) ok_X10_of dX10_charged_10 wm_ml_X10_29 rfl mw_m rfl rfl (Nat.le_of_ble_eq_true rfl) ⟨Nat.le_of_ble_eq_true rfl, Nat.le_of_ble_eq_true rfl⟩ rfl ?_
  refine G.iadd (pc := 13) cx dX10_charged_13 ?_
  refine G.aload_n (pc := 14) cx dX10_charged_14 rfl 0 rfl ?_
  refine G.iload_n (pc := 15) cx dX10_charged_15 rfl 1 rfl ?_
  refine G.bipush (pc := 16) cx dX10_charged_16 (v := 7) (by decide) ?_
  refine G.callV0 (pc := 18) (rest := [.int ((z (10 * k + 5)) + (z (10 * k + 6)))]) (st1 := [.int (z (10 * k + 7)), .int ((z (10 * k + 5)) + (z (10 * k + 6)))]) cx (c_X10_of l K sz o z r V k 7 (by omega)) ok_X10_of dX10_charged_18 wm_ml_X10_29 rfl mw_m rfl rfl (Nat.le_of_ble_eq_true rfl) ⟨Nat.le_of_ble_eq_true rfl, Nat.le_of_ble_eq_true rfl⟩ rfl ?_
  refine G.iadd (pc := 21) cx dX10_charged_21 ?_
  refine G.iret (pc := 22) cx rfl dX10_charged_22 ?_ ?_ rfl
  · refine congrArg (fun x => some (Value.int x)) ?_
    first | rfl | (refine b2_t ?_; grind) | (refine b2_f ?_; grind) | (simp [*]; done) | (simp_all; done) | grind
  · rfl
set_option maxHeartbeats 4000000 in
set_option maxRecDepth 100000 in
theorem c_X10_balance (l : Launch) (K : KT) (sz : Nat) (o : Nat) (z : Zt) (r : Rt) (V : VW) (k : Nat) (h : k < 16) : Ct l K yX10_balance cX10_balance 2 (some .int) 2 [.ref o, .int (nI k)] (mw K o z r V) sz (some (.int (zBal z k))) (mw K o z r V) sz 0 0 := by
  refine Ct.ofG (by decide) (Nat.le_of_ble_eq_true rfl) ?_
  intro p9 e9 s9 m9 a9 b9 t9 c9 cx hin9
  refine G.lv0 (lv2 := [(0, .ref o), (1, .int (nI k))]) rfl ?_
  refine G.aload_n (pc := 0) cx dX10_balance_0 rfl 0 rfl ?_
  refine G.iload_n (pc := 1) cx dX10_balance_1 rfl 1 rfl ?_
  refine G.callV0 (pc := 2) (rest := []) (st1 := [.int (b2 (z (10 * k + 2) = 2))]) cx (c_X10_isGone l K sz o z r V k (by omega)) ok_X10_isGone dX10_balance_2 wm_ml_X10_42 rfl mw_m rfl rfl (Nat.le_of_ble_eq_true rfl) ⟨Nat.le_of_ble_eq_true rfl, Nat.le_of_ble_eq_true rfl⟩ rfl ?_
  refine G.if_eqB (pc := 5) cx dX10_balance_5 (tgt := 12) (by decide) (fun c5 => ?_) (fun c5 => ?_)
  · skip
    refine G.aload_n (pc := 12) cx dX10_balance_12 rfl 0 rfl ?_
    refine G.iload_n (pc := 13) cx dX10_balance_13 rfl 1 rfl ?_
    refine G.callV0 (pc := 14) (rest := []) (st1 := [.int (zEarn z k)]) cx (c_X10_earned l K sz o z r V k (by omega)) ok_X10_earned dX10_balance_14 wm_ml_X10_46 rfl mw_m rfl rfl (Nat.le_of_ble_eq_true rfl) ⟨Nat.le_of_ble_eq_true rfl, Nat.le_of_ble_eq_true rfl⟩ rfl ?_
    refine G.aload_n (pc := 17) cx dX10_balance_17 rfl 0 rfl ?_
    refine G.iload_n (pc := 18) cx dX10_balance_18 rfl 1 rfl ?_
    refine G.bipush (pc := 19) cx dX10_balance_19 (v := 8) (by decide) ?_
    refine G.callV0 (pc := 21) (rest := [.int (zEarn z k)]) (st1 := [.int (z (10 * k + 8)), .int (zEarn z k)]) cx (c_X10_of l K sz o z r V k 8 (by omega)) ok_X10_of dX10_balance_21 wm_ml_X10_29 rfl mw_m rfl rfl (Nat.le_of_ble_eq_true rfl) ⟨Nat.le_of_ble_eq_true rfl, Nat.le_of_ble_eq_true rfl⟩ rfl ?_
    refine G.iadd (pc := 24) cx dX10_balance_24 ?_
    refine G.aload_n (pc := 25) cx dX10_balance_25 rfl 0 rfl ?_
    refine G.iload_n (pc := 26) cx dX10_balance_26 rfl 1 rfl ?_
    refine G.callV0 (pc := 27) (rest := [.int ((zEarn z k) + (z (10 * k + 8)))]) (st1 := [.int (zChg z k), .int ((zEarn z k) + (z (10 * k + 8)))]) cx (c_X10_charged l K sz o z r V k (by omega)) ok_X10_charged dX10_balance_27 wm_ml_X10_50 rfl mw_m rfl rfl (Nat.le_of_ble_eq_true rfl) ⟨Nat.le_of_ble_eq_true rfl, Nat.le_of_ble_eq_true rfl⟩ rfl ?_
    refine G.isub (pc := 30) cx dX10_balance_30 ?_
    refine G.iret (pc := 31) cx rfl dX10_balance_31 ?_ ?_ rfl
    · refine congrArg (fun x => some (Value.int x)) ?_
      first | rfl | (refine b2_t ?_; grind) | (refine b2_f ?_; grind) | (simp [*, zBal]; done) | (simp_all [zBal]; done) | grind [zBal]
    · rfl
  · skip
    refine G.iconst (pc := 8) cx dX10_balance_8 (v := 0) (by decide) ?_
    refine G.goto (pc := 9) cx dX10_balance_9 (tgt := 31) (by decide) ?_
    refine G.iret (pc := 31) cx rfl dX10_balance_31 ?_ ?_ rfl
    · refine congrArg (fun x => some (Value.int x)) ?_
      first | rfl | (refine b2_t ?_; grind) | (refine b2_f ?_; grind) | (simp [*, zBal]; done) | (simp_all [zBal]; done) | grind [zBal]
    · rfl
