set_option maxHeartbeats 4000000 in
set_option maxRecDepth 100000 in
theorem c_X9_within (l : Launch) (K : KT) (sz : Nat) (v : Int32) (lo : Int32) (hi : Int32) (V : VW)  : Ct l K yX9_within cX9_within 3 (some .boolean) 0 [.int v, .int lo, .int hi] V sz (some (.int (b2 (lo ≤ v ∧ v ≤ hi)))) V sz 0 0 := by
  refine Ct.ofG (by decide) (Nat.le_of_ble_eq_true rfl) ?_
  intro p9 e9 s9 m9 a9 b9 t9 c9 cx hin9
  refine G.lv0 (lv2 := [(0, .int v), (1, .int lo), (2, .int hi)]) rfl ?_
  refine G.iload_n (pc := 0) cx dX9_within_0 rfl 0 rfl ?_
  refine G.iload_n (pc := 1) cx dX9_within_1 rfl 1 rfl ?_
  refine G.icmp_lt (pc := 2) cx dX9_within_2 (tgt := 14) (by decide) (fun cq2 => ?_) (fun cq2 => ?_)
  · skip
    refine G.iconst (pc := 14) cx dX9_within_14 (v := 0) (by decide) ?_
    refine G.zret (pc := 15) cx rfl dX9_within_15 rfl ?_ ?_ rfl
    · refine congrArg (fun x => some (Value.int x)) ?_
      (try clear hin9); (try clear cx); first | rfl | (refine b2_t ?_; grind) | (refine b2_f ?_; grind) | (refine (b2_t ?_).symm; grind) | (refine (b2_f ?_).symm; grind) | (simp [*, b2, Int32.not_lt, Int32.not_le]; done) | (simp_all [b2, Int32.not_lt, Int32.not_le]; done) | grind [b2, Int32.not_lt, Int32.not_le]
    · rfl
  · skip
    refine G.iload_n (pc := 5) cx dX9_within_5 rfl 0 rfl ?_
    refine G.iload_n (pc := 6) cx dX9_within_6 rfl 2 rfl ?_
    refine G.icmp_gt (pc := 7) cx dX9_within_7 (tgt := 14) (by decide) (fun cq7 => ?_) (fun cq7 => ?_)
    · skip
      refine G.iconst (pc := 14) cx dX9_within_14 (v := 0) (by decide) ?_
      refine G.zret (pc := 15) cx rfl dX9_within_15 rfl ?_ ?_ rfl
      · refine congrArg (fun x => some (Value.int x)) ?_
        (try clear hin9); (try clear cx); first | rfl | (refine b2_t ?_; grind) | (refine b2_f ?_; grind) | (refine (b2_t ?_).symm; grind) | (refine (b2_f ?_).symm; grind) | (simp [*, b2, Int32.not_lt, Int32.not_le]; done) | (simp_all [b2, Int32.not_lt, Int32.not_le]; done) | grind [b2, Int32.not_lt, Int32.not_le]
      · rfl
    · skip
      refine G.iconst (pc := 10) cx dX9_within_10 (v := 1) (by decide) ?_
      refine G.goto (pc := 11) cx dX9_within_11 (tgt := 15) (by decide) ?_
      refine G.zret (pc := 15) cx rfl dX9_within_15 rfl ?_ ?_ rfl
      · refine congrArg (fun x => some (Value.int x)) ?_
        (try clear hin9); (try clear cx); first | rfl | (refine b2_t ?_; grind) | (refine b2_f ?_; grind) | (refine (b2_t ?_).symm; grind) | (refine (b2_f ?_).symm; grind) | (simp [*, b2, Int32.not_lt, Int32.not_le]; done) | (simp_all [b2, Int32.not_lt, Int32.not_le]; done) | grind [b2, Int32.not_lt, Int32.not_le]
      · rfl
set_option maxHeartbeats 4000000 in
set_option maxRecDepth 100000 in
theorem c_X6_beginVoyage (l : Launch) (K : KT) (sz : Nat) (b : Nat) (z : Zt) (V : VW) (k : Nat) (x : Int32) (hk : k < 16) : Ct l K yX6_beginVoyage cX6_beginVoyage 2 none 0 [.ref (b + 2 + k), .int x] (bw K b z V) sz none (bw K b (zBegin z k x) V) sz 0 0 := by
  refine Ct.ofG (by decide) (Nat.le_of_ble_eq_true rfl) ?_
  intro p9 e9 s9 m9 a9 b9 t9 c9 cx hin9
  refine G.lv0 (lv2 := [(0, .ref (b + 2 + k)), (1, .int x)]) rfl ?_
  refine G.aload_n (pc := 0) cx dX6_beginVoyage_0 rfl 0 rfl ?_
  refine G.iconst (pc := 1) cx dX6_beginVoyage_1 (v := 0) (by decide) ?_
  refine G.putS (pc := 2) cx dX6_beginVoyage_2 3 wm_fl_X6_21 (by decide) (by decide) (by omega) ?_
  refine G.aload_n (pc := 5) cx dX6_beginVoyage_5 rfl 0 rfl ?_
  refine G.iconst (pc := 6) cx dX6_beginVoyage_6 (v := 0) (by decide) ?_
  refine G.putS (pc := 7) cx dX6_beginVoyage_7 4 wm_fl_X6_24 (by decide) (by decide) (by omega) ?_
  refine G.aload_n (pc := 10) cx dX6_beginVoyage_10 rfl 0 rfl ?_
  refine G.iconst (pc := 11) cx dX6_beginVoyage_11 (v := 0) (by decide) ?_
  refine G.putS (pc := 12) cx dX6_beginVoyage_12 5 wm_fl_X6_27 (by decide) (by decide) (by omega) ?_
  refine G.aload_n (pc := 15) cx dX6_beginVoyage_15 rfl 0 rfl ?_
  refine G.iconst (pc := 16) cx dX6_beginVoyage_16 (v := 0) (by decide) ?_
  refine G.putS (pc := 17) cx dX6_beginVoyage_17 6 wm_fl_X6_30 (by decide) (by decide) (by omega) ?_
  refine G.aload_n (pc := 20) cx dX6_beginVoyage_20 rfl 0 rfl ?_
  refine G.iconst (pc := 21) cx dX6_beginVoyage_21 (v := 0) (by decide) ?_
  refine G.putS (pc := 22) cx dX6_beginVoyage_22 7 wm_fl_X6_33 (by decide) (by decide) (by omega) ?_
  refine G.aload_n (pc := 25) cx dX6_beginVoyage_25 rfl 0 rfl ?_
  refine G.iload_n (pc := 26) cx dX6_beginVoyage_26 rfl 1 rfl ?_
  refine G.putS8 (pc := 27) cx dX6_beginVoyage_27 wm_fl_X6_36 (by omega) ?_
  refine G.vret (pc := 30) cx rfl dX6_beginVoyage_30 rfl ?_ rfl
  · refine congrArg (fun x => bw K b x V) ?_
    (try clear hin9); (try clear cx); exact zBegin_eq z k x
set_option maxHeartbeats 4000000 in
set_option maxRecDepth 100000 in
theorem c_X6_comeAboard (l : Launch) (K : KT) (sz : Nat) (b : Nat) (z : Zt) (V : VW) (k : Nat) (q : Int32) (w : Int32) (hk : k < 16) : Ct l K yX6_comeAboard cX6_comeAboard 3 none 1 [.ref (b + 2 + k), .int q, .int w] (bw K b z V) sz none (bw K b (zBegin (upd (upd (upd (upd z (10 * k + 0) q) (10 * k + 1) w) (10 * k + 2) 0) (10 * k + 9) 0) k 0) V) sz 0 0 := by
  refine Ct.ofG (by decide) (Nat.le_of_ble_eq_true rfl) ?_
  intro p9 e9 s9 m9 a9 b9 t9 c9 cx hin9
  refine G.lv0 (lv2 := [(0, .ref (b + 2 + k)), (1, .int q), (2, .int w)]) rfl ?_
  refine G.aload_n (pc := 0) cx dX6_comeAboard_0 rfl 0 rfl ?_
  refine G.iload_n (pc := 1) cx dX6_comeAboard_1 rfl 1 rfl ?_
  refine G.putS (pc := 2) cx dX6_comeAboard_2 0 wm_fl_X6_9 (by decide) (by decide) (by omega) ?_
  refine G.aload_n (pc := 5) cx dX6_comeAboard_5 rfl 0 rfl ?_
  refine G.iload_n (pc := 6) cx dX6_comeAboard_6 rfl 2 rfl ?_
  refine G.putS (pc := 7) cx dX6_comeAboard_7 1 wm_fl_X6_15 (by decide) (by decide) (by omega) ?_
  refine G.aload_n (pc := 10) cx dX6_comeAboard_10 rfl 0 rfl ?_
  refine G.iconst (pc := 11) cx dX6_comeAboard_11 (v := 0) (by decide) ?_
  refine G.putS (pc := 12) cx dX6_comeAboard_12 2 wm_fl_X6_18 (by decide) (by decide) (by omega) ?_
  refine G.aload_n (pc := 15) cx dX6_comeAboard_15 rfl 0 rfl ?_
  refine G.iconst (pc := 16) cx dX6_comeAboard_16 (v := 0) (by decide) ?_
  refine G.putS (pc := 17) cx dX6_comeAboard_17 9 wm_fl_X6_39 (by decide) (by decide) (by omega) ?_
  refine G.aload_n (pc := 20) cx dX6_comeAboard_20 rfl 0 rfl ?_
  refine G.iconst (pc := 21) cx dX6_comeAboard_21 (v := 0) (by decide) ?_
  refine G.callV0 (pc := 22) (rest := []) (st1 := []) cx (c_X6_beginVoyage l K sz b (upd (upd (upd (upd z (10 * k + 0) q) (10 * k + 1) w) (10 * k + 2) 0) (10 * k + 9) 0) V k 0 (by omega)) ok_X6_beginVoyage dX6_comeAboard_22 wm_ml_X6_42 rfl (bw_s (by omega)) rfl rfl (Nat.le_of_ble_eq_true rfl) ⟨Nat.le_of_ble_eq_true rfl, Nat.le_of_ble_eq_true rfl⟩ rfl ?_
  refine G.vret (pc := 25) cx rfl dX6_comeAboard_25 rfl ?_ rfl
  · rfl
set_option maxHeartbeats 4000000 in
set_option maxRecDepth 100000 in
theorem c_X6_goAway (l : Launch) (K : KT) (sz : Nat) (b : Nat) (z : Zt) (V : VW) (k : Nat) (hk : k < 16) : Ct l K yX6_goAway cX6_goAway 1 none 1 [.ref (b + 2 + k)] (bw K b z V) sz none (bw K b (zBegin (upd z (10 * k + 2) 2) k 0) V) sz 0 0 := by
  refine Ct.ofG (by decide) (Nat.le_of_ble_eq_true rfl) ?_
  intro p9 e9 s9 m9 a9 b9 t9 c9 cx hin9
  refine G.lv0 (lv2 := [(0, .ref (b + 2 + k))]) rfl ?_
  refine G.aload_n (pc := 0) cx dX6_goAway_0 rfl 0 rfl ?_
  refine G.iconst (pc := 1) cx dX6_goAway_1 (v := 2) (by decide) ?_
  refine G.putS (pc := 2) cx dX6_goAway_2 2 wm_fl_X6_18 (by decide) (by decide) (by omega) ?_
  refine G.aload_n (pc := 5) cx dX6_goAway_5 rfl 0 rfl ?_
  refine G.iconst (pc := 6) cx dX6_goAway_6 (v := 0) (by decide) ?_
  refine G.callV0 (pc := 7) (rest := []) (st1 := []) cx (c_X6_beginVoyage l K sz b (upd z (10 * k + 2) 2) V k 0 (by omega)) ok_X6_beginVoyage dX6_goAway_7 wm_ml_X6_42 rfl (bw_s (by omega)) rfl rfl (Nat.le_of_ble_eq_true rfl) ⟨Nat.le_of_ble_eq_true rfl, Nat.le_of_ble_eq_true rfl⟩ rfl ?_
  refine G.vret (pc := 10) cx rfl dX6_goAway_10 rfl ?_ rfl
  · rfl
set_option maxHeartbeats 4000000 in
set_option maxRecDepth 100000 in
theorem c_X6_isGone (l : Launch) (K : KT) (sz : Nat) (b : Nat) (z : Zt) (V : VW) (k : Nat) (hk : k < 16) : Ct l K yX6_isGone cX6_isGone 1 (some .boolean) 0 [.ref (b + 2 + k)] (bw K b z V) sz (some (.int (b2 (z (10 * k + 2) = 2)))) (bw K b z V) sz 0 0 := by
  refine Ct.ofG (by decide) (Nat.le_of_ble_eq_true rfl) ?_
  intro p9 e9 s9 m9 a9 b9 t9 c9 cx hin9
  refine G.lv0 (lv2 := [(0, .ref (b + 2 + k))]) rfl ?_
  refine G.aload_n (pc := 0) cx dX6_isGone_0 rfl 0 rfl ?_
  refine G.getS (pc := 1) cx dX6_isGone_1 2 wm_fl_X6_18 (by decide) (by omega) rfl ?_
  refine G.iconst (pc := 4) cx dX6_isGone_4 (v := 2) (by decide) ?_
  refine G.icmp_ne (pc := 5) cx dX6_isGone_5 (tgt := 12) (by decide) (fun cq5 => ?_) (fun cq5 => ?_)
  · skip
    refine G.iconst (pc := 12) cx dX6_isGone_12 (v := 0) (by decide) ?_
    refine G.zret (pc := 13) cx rfl dX6_isGone_13 rfl ?_ ?_ rfl
    · refine congrArg (fun x => some (Value.int x)) ?_
      (try clear hin9); (try clear cx); first | rfl | (refine b2_t ?_; grind) | (refine b2_f ?_; grind) | (refine (b2_t ?_).symm; grind) | (refine (b2_f ?_).symm; grind) | (simp [*]; done) | (simp_all; done) | grind
    · rfl
  · skip
    refine G.iconst (pc := 8) cx dX6_isGone_8 (v := 1) (by decide) ?_
    refine G.goto (pc := 9) cx dX6_isGone_9 (tgt := 13) (by decide) ?_
    refine G.zret (pc := 13) cx rfl dX6_isGone_13 rfl ?_ ?_ rfl
    · refine congrArg (fun x => some (Value.int x)) ?_
      (try clear hin9); (try clear cx); first | rfl | (refine b2_t ?_; grind) | (refine b2_f ?_; grind) | (refine (b2_t ?_).symm; grind) | (refine (b2_f ?_).symm; grind) | (simp [*]; done) | (simp_all; done) | grind
    · rfl
set_option maxHeartbeats 4000000 in
set_option maxRecDepth 100000 in
theorem c_X6_isOfWatch (l : Launch) (K : KT) (sz : Nat) (b : Nat) (z : Zt) (V : VW) (k : Nat) (w : Int32) (hk : k < 16) : Ct l K yX6_isOfWatch cX6_isOfWatch 2 (some .boolean) 1 [.ref (b + 2 + k), .int w] (bw K b z V) sz (some (.int (b2 (z (10 * k + 1) = w ∧ ¬ z (10 * k + 2) = 2)))) (bw K b z V) sz 0 0 := by
  refine Ct.ofG (by decide) (Nat.le_of_ble_eq_true rfl) ?_
  intro p9 e9 s9 m9 a9 b9 t9 c9 cx hin9
  refine G.lv0 (lv2 := [(0, .ref (b + 2 + k)), (1, .int w)]) rfl ?_
  refine G.aload_n (pc := 0) cx dX6_isOfWatch_0 rfl 0 rfl ?_
  refine G.getS (pc := 1) cx dX6_isOfWatch_1 1 wm_fl_X6_15 (by decide) (by omega) rfl ?_
  refine G.iload_n (pc := 4) cx dX6_isOfWatch_4 rfl 1 rfl ?_
  refine G.icmp_ne (pc := 5) cx dX6_isOfWatch_5 (tgt := 19) (by decide) (fun cq5 => ?_) (fun cq5 => ?_)
  · skip
    refine G.iconst (pc := 19) cx dX6_isOfWatch_19 (v := 0) (by decide) ?_
    refine G.zret (pc := 20) cx rfl dX6_isOfWatch_20 rfl ?_ ?_ rfl
    · refine congrArg (fun x => some (Value.int x)) ?_
      (try clear hin9); (try clear cx); first | rfl | (refine b2_t ?_; grind) | (refine b2_f ?_; grind) | (refine (b2_t ?_).symm; grind) | (refine (b2_f ?_).symm; grind) | (simp [*]; done) | (simp_all; done) | grind
    · rfl
  · skip
    refine G.aload_n (pc := 8) cx dX6_isOfWatch_8 rfl 0 rfl ?_
    refine G.callV0 (pc := 9) (rest := []) (st1 := [.int (b2 (z (10 * k + 2) = 2))]) cx (c_X6_isGone l K sz b z V k (by omega)) ok_X6_isGone dX6_isOfWatch_9 wm_ml_X6_46 rfl (bw_s (by omega)) rfl rfl (Nat.le_of_ble_eq_true rfl) ⟨Nat.le_of_ble_eq_true rfl, Nat.le_of_ble_eq_true rfl⟩ rfl ?_
    refine G.if_neB (pc := 12) cx dX6_isOfWatch_12 (tgt := 19) (by decide) (fun cq12 => ?_) (fun cq12 => ?_)
    · skip
      refine G.iconst (pc := 19) cx dX6_isOfWatch_19 (v := 0) (by decide) ?_
      refine G.zret (pc := 20) cx rfl dX6_isOfWatch_20 rfl ?_ ?_ rfl
      · refine congrArg (fun x => some (Value.int x)) ?_
        (try clear hin9); (try clear cx); first | rfl | (refine b2_t ?_; grind) | (refine b2_f ?_; grind) | (refine (b2_t ?_).symm; grind) | (refine (b2_f ?_).symm; grind) | (simp [*]; done) | (simp_all; done) | grind
      · rfl
    · skip
      refine G.iconst (pc := 15) cx dX6_isOfWatch_15 (v := 1) (by decide) ?_
      refine G.goto (pc := 16) cx dX6_isOfWatch_16 (tgt := 20) (by decide) ?_
      refine G.zret (pc := 20) cx rfl dX6_isOfWatch_20 rfl ?_ ?_ rfl
      · refine congrArg (fun x => some (Value.int x)) ?_
        (try clear hin9); (try clear cx); first | rfl | (refine b2_t ?_; grind) | (refine b2_f ?_; grind) | (refine (b2_t ?_).symm; grind) | (refine (b2_f ?_).symm; grind) | (simp [*]; done) | (simp_all; done) | grind
      · rfl
set_option maxHeartbeats 4000000 in
set_option maxRecDepth 100000 in
theorem c_X6_passDays (l : Launch) (K : KT) (sz : Nat) (b : Nat) (z : Zt) (V : VW) (k : Nat) (m : Int32) (t : Int32) (hk : k < 16) : Ct l K yX6_passDays cX6_passDays 3 none 0 [.ref (b + 2 + k), .int m, .int t] (bw K b z V) sz none (bw K b (cDay z k m t) V) sz 0 0 := by
  refine Ct.ofG (by decide) (Nat.le_of_ble_eq_true rfl) ?_
  intro p9 e9 s9 m9 a9 b9 t9 c9 cx hin9
  refine G.lv0 (lv2 := [(0, .ref (b + 2 + k)), (1, .int m), (2, .int t)]) rfl ?_
  refine G.iload_n (pc := 0) cx dX6_passDays_0 rfl 2 rfl ?_
  refine G.if_eq (pc := 1) cx dX6_passDays_1 (tgt := 17) (by decide) (fun cq1 => ?_) (fun cq1 => ?_)
  · skip
    refine G.aload_n (pc := 17) cx dX6_passDays_17 rfl 0 rfl ?_
    refine G.dup (pc := 18) cx dX6_passDays_18 rfl ?_
    refine G.getS (pc := 19) cx dX6_passDays_19 4 wm_fl_X6_24 (by decide) (by omega) rfl ?_
    refine G.iload_n (pc := 22) cx dX6_passDays_22 rfl 1 rfl ?_
    refine G.iadd (pc := 23) cx dX6_passDays_23 ?_
    refine G.putS (pc := 24) cx dX6_passDays_24 4 wm_fl_X6_24 (by decide) (by decide) (by omega) ?_
    refine G.vret (pc := 27) cx rfl dX6_passDays_27 rfl ?_ rfl
    · refine congrArg (fun x => bw K b x V) ?_
      (try clear hin9); (try clear cx); simp [cDay, *]
  · skip
    refine G.aload_n (pc := 4) cx dX6_passDays_4 rfl 0 rfl ?_
    refine G.dup (pc := 5) cx dX6_passDays_5 rfl ?_
    refine G.getS (pc := 6) cx dX6_passDays_6 3 wm_fl_X6_21 (by decide) (by omega) rfl ?_
    refine G.iload_n (pc := 9) cx dX6_passDays_9 rfl 1 rfl ?_
    refine G.iadd (pc := 10) cx dX6_passDays_10 ?_
    refine G.putS (pc := 11) cx dX6_passDays_11 3 wm_fl_X6_21 (by decide) (by decide) (by omega) ?_
    refine G.goto (pc := 14) cx dX6_passDays_14 (tgt := 27) (by decide) ?_
    refine G.vret (pc := 27) cx rfl dX6_passDays_27 rfl ?_ rfl
    · refine congrArg (fun x => bw K b x V) ?_
      (try clear hin9); (try clear cx); simp [cDay, *]
set_option maxHeartbeats 4000000 in
set_option maxRecDepth 100000 in
theorem c_X6_wages (l : Launch) (K : KT) (sz : Nat) (b : Nat) (z : Zt) (V : VW) (k : Nat) (x : Int32) (y : Int32) (q : Int32) (hk : k < 16) (hq : z (10 * k) = q) : Ct l K yX6_wages cX6_wages 3 (some .int) 0 [.ref (b + 2 + k), .int x, .int y] (bw K b z V) sz (some (.int (zWages q x y))) (bw K b z V) sz 0 0 := by
  refine Ct.ofG (by decide) (Nat.le_of_ble_eq_true rfl) ?_
  intro p9 e9 s9 m9 a9 b9 t9 c9 cx hin9
  refine G.lv0 (lv2 := [(0, .ref (b + 2 + k)), (1, .int x), (2, .int y)]) rfl ?_
  refine G.aload_n (pc := 0) cx dX6_wages_0 rfl 0 rfl ?_
  refine G.getS (pc := 1) cx dX6_wages_1 0 wm_fl_X6_9 (by decide) (by omega) (congrArg (fun x => some (Value.int x)) (hq)) ?_
  by_cases sw4_0 : q = 0
  · subst sw4_0
    refine G.tableIn (pc := 4) cx dX6_wages_4 (off := 28) (tgt := 32) (by decide) (by decide) (by decide) (by decide) ?_
    refine G.iload_n (pc := 32) cx dX6_wages_32 rfl 1 rfl ?_
    refine G.iload_n (pc := 33) cx dX6_wages_33 rfl 2 rfl ?_
    refine G.iadd (pc := 34) cx dX6_wages_34 ?_
    refine G.iconst (pc := 35) cx dX6_wages_35 (v := 2) (by decide) ?_
    refine G.idiv (pc := 36) cx dX6_wages_36 (by decide) ?_
    refine G.iret (pc := 37) cx rfl dX6_wages_37 ?_ ?_ rfl
    · refine congrArg (fun x => some (Value.int x)) ?_
      (try clear hin9); (try clear cx); simp [zWages, *]
    · rfl
  by_cases sw4_1 : q = 1
  · subst sw4_1
    refine G.tableIn (pc := 4) cx dX6_wages_4 (off := 34) (tgt := 38) (by decide) (by decide) (by decide) (by decide) ?_
    refine G.iconst (pc := 38) cx dX6_wages_38 (v := 2) (by decide) ?_
    refine G.iload_n (pc := 39) cx dX6_wages_39 rfl 1 rfl ?_
    refine G.imul (pc := 40) cx dX6_wages_40 ?_
    refine G.iload_n (pc := 41) cx dX6_wages_41 rfl 2 rfl ?_
    refine G.iadd (pc := 42) cx dX6_wages_42 ?_
    refine G.iret (pc := 43) cx rfl dX6_wages_43 ?_ ?_ rfl
    · refine congrArg (fun x => some (Value.int x)) ?_
      (try clear hin9); (try clear cx); simp [zWages, *]
    · rfl
  by_cases sw4_2 : q = 2
  · subst sw4_2
    refine G.tableIn (pc := 4) cx dX6_wages_4 (off := 40) (tgt := 44) (by decide) (by decide) (by decide) (by decide) ?_
    refine G.iconst (pc := 44) cx dX6_wages_44 (v := 2) (by decide) ?_
    refine G.iload_n (pc := 45) cx dX6_wages_45 rfl 1 rfl ?_
    refine G.iload_n (pc := 46) cx dX6_wages_46 rfl 2 rfl ?_
    refine G.iadd (pc := 47) cx dX6_wages_47 ?_
    refine G.imul (pc := 48) cx dX6_wages_48 ?_
    refine G.iload_n (pc := 49) cx dX6_wages_49 rfl 1 rfl ?_
    refine G.iload_n (pc := 50) cx dX6_wages_50 rfl 2 rfl ?_
    refine G.iadd (pc := 51) cx dX6_wages_51 ?_
    refine G.bipush (pc := 52) cx dX6_wages_52 (v := 7) (by decide) ?_
    refine G.idiv (pc := 54) cx dX6_wages_54 (by decide) ?_
    refine G.iadd (pc := 55) cx dX6_wages_55 ?_
    refine G.iret (pc := 56) cx rfl dX6_wages_56 ?_ ?_ rfl
    · refine congrArg (fun x => some (Value.int x)) ?_
      (try clear hin9); (try clear cx); simp [zWages, *]
    · rfl
  refine G.tableDef (pc := 4) cx dX6_wages_4 (tgt := 57) ?_ (by decide) ?_
  · have g0 := sw_ne sw4_0 (by decide : (0 : Int) = (0 : Int32).toInt); have g1 := sw_ne sw4_1 (by decide : (1 : Int) = (1 : Int32).toInt); have g2 := sw_ne sw4_2 (by decide : (2 : Int) = (2 : Int32).toInt)
    rcases (show q.toInt < 0 ∨ 2 < q.toInt by omega) with h | h
    · exact Or.inl h
    · exact Or.inr (Or.inl h)
  refine G.iconst (pc := 57) cx dX6_wages_57 (v := 4) (by decide) ?_
  refine G.iload_n (pc := 58) cx dX6_wages_58 rfl 1 rfl ?_
  refine G.imul (pc := 59) cx dX6_wages_59 ?_
  refine G.iconst (pc := 60) cx dX6_wages_60 (v := 2) (by decide) ?_
  refine G.iload_n (pc := 61) cx dX6_wages_61 rfl 2 rfl ?_
  refine G.imul (pc := 62) cx dX6_wages_62 ?_
  refine G.iadd (pc := 63) cx dX6_wages_63 ?_
  refine G.iret (pc := 64) cx rfl dX6_wages_64 ?_ ?_ rfl
  · refine congrArg (fun x => some (Value.int x)) ?_
    (try clear hin9); (try clear cx); simp [zWages, *]
  · rfl
set_option maxHeartbeats 4000000 in
set_option maxRecDepth 100000 in
theorem c_X6_earned (l : Launch) (K : KT) (sz : Nat) (b : Nat) (z : Zt) (V : VW) (k : Nat) (hk : k < 16) : Ct l K yX6_earned cX6_earned 1 (some .int) 1 [.ref (b + 2 + k)] (bw K b z V) sz (some (.int (zEarn z k))) (bw K b z V) sz 0 0 := by
  refine Ct.ofG (by decide) (Nat.le_of_ble_eq_true rfl) ?_
  intro p9 e9 s9 m9 a9 b9 t9 c9 cx hin9
  refine G.lv0 (lv2 := [(0, .ref (b + 2 + k))]) rfl ?_
  refine G.aload_n (pc := 0) cx dX6_earned_0 rfl 0 rfl ?_
  refine G.aload_n (pc := 1) cx dX6_earned_1 rfl 0 rfl ?_
  refine G.getS (pc := 2) cx dX6_earned_2 3 wm_fl_X6_21 (by decide) (by omega) rfl ?_
  refine G.aload_n (pc := 5) cx dX6_earned_5 rfl 0 rfl ?_
  refine G.getS (pc := 6) cx dX6_earned_6 4 wm_fl_X6_24 (by decide) (by omega) rfl ?_
  refine G.callV0 (pc := 9) (rest := []) (st1 := [.int (zWages (z (10 * k)) (z (10 * k + 3)) (z (10 * k + 4)))]) cx (c_X6_wages l K sz b z V k (z (10 * k + 3)) (z (10 * k + 4)) (z (10 * k)) (by omega) (by rfl)) ok_X6_wages dX6_earned_9 wm_ml_X6_50 rfl (bw_s (by omega)) rfl rfl (Nat.le_of_ble_eq_true rfl) ⟨Nat.le_of_ble_eq_true rfl, Nat.le_of_ble_eq_true rfl⟩ rfl ?_
  refine G.iret (pc := 12) cx rfl dX6_earned_12 ?_ ?_ rfl
  · refine congrArg (fun x => some (Value.int x)) ?_
    (try clear hin9); (try clear cx); first | rfl | (refine b2_t ?_; grind) | (refine b2_f ?_; grind) | (refine (b2_t ?_).symm; grind) | (refine (b2_f ?_).symm; grind) | (simp [*]; done) | (simp_all; done) | grind
  · rfl
set_option maxHeartbeats 4000000 in
set_option maxRecDepth 100000 in
theorem c_X6_earnedAfter (l : Launch) (K : KT) (sz : Nat) (b : Nat) (z : Zt) (V : VW) (k : Nat) (m : Int32) (t : Int32) (hk : k < 16) : Ct l K yX6_earnedAfter cX6_earnedAfter 3 (some .int) 1 [.ref (b + 2 + k), .int m, .int t] (bw K b z V) sz (some (.int (cEarnA z k m t))) (bw K b z V) sz 0 0 := by
  refine Ct.ofG (by decide) (Nat.le_of_ble_eq_true rfl) ?_
  intro p9 e9 s9 m9 a9 b9 t9 c9 cx hin9
  refine G.lv0 (lv2 := [(0, .ref (b + 2 + k)), (1, .int m), (2, .int t)]) rfl ?_
  refine G.iload_n (pc := 0) cx dX6_earnedAfter_0 rfl 2 rfl ?_
  refine G.if_eq (pc := 1) cx dX6_earnedAfter_1 (tgt := 21) (by decide) (fun cq1 => ?_) (fun cq1 => ?_)
  · skip
    refine G.aload_n (pc := 21) cx dX6_earnedAfter_21 rfl 0 rfl ?_
    refine G.aload_n (pc := 22) cx dX6_earnedAfter_22 rfl 0 rfl ?_
    refine G.getS (pc := 23) cx dX6_earnedAfter_23 3 wm_fl_X6_21 (by decide) (by omega) rfl ?_
    refine G.aload_n (pc := 26) cx dX6_earnedAfter_26 rfl 0 rfl ?_
    refine G.getS (pc := 27) cx dX6_earnedAfter_27 4 wm_fl_X6_24 (by decide) (by omega) rfl ?_
    refine G.iload_n (pc := 30) cx dX6_earnedAfter_30 rfl 1 rfl ?_
    refine G.iadd (pc := 31) cx dX6_earnedAfter_31 ?_
    refine G.callV0 (pc := 32) (rest := []) (st1 := [.int (zWages (z (10 * k)) (z (10 * k + 3)) ((z (10 * k + 4)) + m))]) cx (c_X6_wages l K sz b z V k (z (10 * k + 3)) ((z (10 * k + 4)) + m) (z (10 * k)) (by omega) (by rfl)) ok_X6_wages dX6_earnedAfter_32 wm_ml_X6_50 rfl (bw_s (by omega)) rfl rfl (Nat.le_of_ble_eq_true rfl) ⟨Nat.le_of_ble_eq_true rfl, Nat.le_of_ble_eq_true rfl⟩ rfl ?_
    refine G.iret (pc := 35) cx rfl dX6_earnedAfter_35 ?_ ?_ rfl
    · refine congrArg (fun x => some (Value.int x)) ?_
      (try clear hin9); (try clear cx); simp [cEarnA, *]
    · rfl
  · skip
    refine G.aload_n (pc := 4) cx dX6_earnedAfter_4 rfl 0 rfl ?_
    refine G.aload_n (pc := 5) cx dX6_earnedAfter_5 rfl 0 rfl ?_
    refine G.getS (pc := 6) cx dX6_earnedAfter_6 3 wm_fl_X6_21 (by decide) (by omega) rfl ?_
    refine G.iload_n (pc := 9) cx dX6_earnedAfter_9 rfl 1 rfl ?_
    refine G.iadd (pc := 10) cx dX6_earnedAfter_10 ?_
    refine G.aload_n (pc := 11) cx dX6_earnedAfter_11 rfl 0 rfl ?_
    refine G.getS (pc := 12) cx dX6_earnedAfter_12 4 wm_fl_X6_24 (by decide) (by omega) rfl ?_
    refine G.callV0 (pc := 15) (rest := []) (st1 := [.int (zWages (z (10 * k)) ((z (10 * k + 3)) + m) (z (10 * k + 4)))]) cx (c_X6_wages l K sz b z V k ((z (10 * k + 3)) + m) (z (10 * k + 4)) (z (10 * k)) (by omega) (by rfl)) ok_X6_wages dX6_earnedAfter_15 wm_ml_X6_50 rfl (bw_s (by omega)) rfl rfl (Nat.le_of_ble_eq_true rfl) ⟨Nat.le_of_ble_eq_true rfl, Nat.le_of_ble_eq_true rfl⟩ rfl ?_
    refine G.goto (pc := 18) cx dX6_earnedAfter_18 (tgt := 35) (by decide) ?_
    refine G.iret (pc := 35) cx rfl dX6_earnedAfter_35 ?_ ?_ rfl
    · refine congrArg (fun x => some (Value.int x)) ?_
      (try clear hin9); (try clear cx); simp [cEarnA, *]
    · rfl
set_option maxHeartbeats 4000000 in
set_option maxRecDepth 100000 in
theorem c_X6_charged (l : Launch) (K : KT) (sz : Nat) (b : Nat) (z : Zt) (V : VW) (k : Nat) (hk : k < 16) : Ct l K yX6_charged cX6_charged 1 (some .int) 0 [.ref (b + 2 + k)] (bw K b z V) sz (some (.int (zChg z k))) (bw K b z V) sz 0 0 := by
  refine Ct.ofG (by decide) (Nat.le_of_ble_eq_true rfl) ?_
  intro p9 e9 s9 m9 a9 b9 t9 c9 cx hin9
  refine G.lv0 (lv2 := [(0, .ref (b + 2 + k))]) rfl ?_
  refine G.aload_n (pc := 0) cx dX6_charged_0 rfl 0 rfl ?_
  refine G.getS (pc := 1) cx dX6_charged_1 5 wm_fl_X6_27 (by decide) (by omega) rfl ?_
  refine G.aload_n (pc := 4) cx dX6_charged_4 rfl 0 rfl ?_
  refine G.getS (pc := 5) cx dX6_charged_5 6 wm_fl_X6_30 (by decide) (by omega) rfl ?_
  refine G.iadd (pc := 8) cx dX6_charged_8 ?_
  refine G.aload_n (pc := 9) cx dX6_charged_9 rfl 0 rfl ?_
  refine G.getS (pc := 10) cx dX6_charged_10 7 wm_fl_X6_33 (by decide) (by omega) rfl ?_
  refine G.iadd (pc := 13) cx dX6_charged_13 ?_
  refine G.iret (pc := 14) cx rfl dX6_charged_14 ?_ ?_ rfl
  · refine congrArg (fun x => some (Value.int x)) ?_
    (try clear hin9); (try clear cx); first | rfl | (refine b2_t ?_; grind) | (refine b2_f ?_; grind) | (refine (b2_t ?_).symm; grind) | (refine (b2_f ?_).symm; grind) | (simp [*]; done) | (simp_all; done) | grind
  · rfl
set_option maxHeartbeats 4000000 in
set_option maxRecDepth 100000 in
theorem c_X6_balance (l : Launch) (K : KT) (sz : Nat) (b : Nat) (z : Zt) (V : VW) (k : Nat) (hk : k < 16) : Ct l K yX6_balance cX6_balance 1 (some .int) 1 [.ref (b + 2 + k)] (bw K b z V) sz (some (.int (cBal z k))) (bw K b z V) sz 0 0 := by
  refine Ct.ofG (by decide) (Nat.le_of_ble_eq_true rfl) ?_
  intro p9 e9 s9 m9 a9 b9 t9 c9 cx hin9
  refine G.lv0 (lv2 := [(0, .ref (b + 2 + k))]) rfl ?_
  refine G.aload_n (pc := 0) cx dX6_balance_0 rfl 0 rfl ?_
  refine G.aload_n (pc := 1) cx dX6_balance_1 rfl 0 rfl ?_
  refine G.getS (pc := 2) cx dX6_balance_2 3 wm_fl_X6_21 (by decide) (by omega) rfl ?_
  refine G.aload_n (pc := 5) cx dX6_balance_5 rfl 0 rfl ?_
  refine G.getS (pc := 6) cx dX6_balance_6 4 wm_fl_X6_24 (by decide) (by omega) rfl ?_
  refine G.callV0 (pc := 9) (rest := []) (st1 := [.int (zWages (z (10 * k)) (z (10 * k + 3)) (z (10 * k + 4)))]) cx (c_X6_wages l K sz b z V k (z (10 * k + 3)) (z (10 * k + 4)) (z (10 * k)) (by omega) (by rfl)) ok_X6_wages dX6_balance_9 wm_ml_X6_50 rfl (bw_s (by omega)) rfl rfl (Nat.le_of_ble_eq_true rfl) ⟨Nat.le_of_ble_eq_true rfl, Nat.le_of_ble_eq_true rfl⟩ rfl ?_
  refine G.aload_n (pc := 12) cx dX6_balance_12 rfl 0 rfl ?_
  refine G.getS (pc := 13) cx dX6_balance_13 8 wm_fl_X6_36 (by decide) (by omega) rfl ?_
  refine G.isub (pc := 16) cx dX6_balance_16 ?_
  refine G.aload_n (pc := 17) cx dX6_balance_17 rfl 0 rfl ?_
  refine G.callV0 (pc := 18) (rest := [.int ((zWages (z (10 * k)) (z (10 * k + 3)) (z (10 * k + 4))) - (-(z (10 * k + 8))))]) (st1 := [.int (zChg z k), .int ((zWages (z (10 * k)) (z (10 * k + 3)) (z (10 * k + 4))) - (-(z (10 * k + 8))))]) cx (c_X6_charged l K sz b z V k (by omega)) ok_X6_charged dX6_balance_18 wm_ml_X6_54 rfl (bw_s (by omega)) rfl rfl (Nat.le_of_ble_eq_true rfl) ⟨Nat.le_of_ble_eq_true rfl, Nat.le_of_ble_eq_true rfl⟩ rfl ?_
  refine G.isub (pc := 21) cx dX6_balance_21 ?_
  refine G.iret (pc := 22) cx rfl dX6_balance_22 ?_ ?_ rfl
  · refine congrArg (fun x => some (Value.int x)) ?_
    (try clear hin9); (try clear cx); first | rfl | (refine b2_t ?_; grind) | (refine b2_f ?_; grind) | (refine (b2_t ?_).symm; grind) | (refine (b2_f ?_).symm; grind) | (simp [*]; done) | (simp_all; done) | grind
  · rfl
set_option maxHeartbeats 4000000 in
set_option maxRecDepth 100000 in
theorem c_X6_couldBeFined (l : Launch) (K : KT) (sz : Nat) (b : Nat) (z : Zt) (V : VW) (k : Nat) (x : Int32) (hk : k < 16) : Ct l K yX6_couldBeFined cX6_couldBeFined 2 (some .boolean) 2 [.ref (b + 2 + k), .int x] (bw K b z V) sz (some (.int (b2 (¬ cBal z k - x < -4000)))) (bw K b z V) sz 0 0 := by
  refine Ct.ofG (by decide) (Nat.le_of_ble_eq_true rfl) ?_
  intro p9 e9 s9 m9 a9 b9 t9 c9 cx hin9
  refine G.lv0 (lv2 := [(0, .ref (b + 2 + k)), (1, .int x)]) rfl ?_
  refine G.aload_n (pc := 0) cx dX6_couldBeFined_0 rfl 0 rfl ?_
  refine G.callV0 (pc := 1) (rest := []) (st1 := [.int (cBal z k)]) cx (c_X6_balance l K sz b z V k (by omega)) ok_X6_balance dX6_couldBeFined_1 wm_ml_X6_58 rfl (bw_s (by omega)) rfl rfl (Nat.le_of_ble_eq_true rfl) ⟨Nat.le_of_ble_eq_true rfl, Nat.le_of_ble_eq_true rfl⟩ rfl ?_
  refine G.iload_n (pc := 4) cx dX6_couldBeFined_4 rfl 1 rfl ?_
  refine G.isub (pc := 5) cx dX6_couldBeFined_5 ?_
  refine G.sipush (pc := 6) cx dX6_couldBeFined_6 (v := (-4000)) (by decide) ?_
  refine G.icmp_lt (pc := 9) cx dX6_couldBeFined_9 (tgt := 16) (by decide) (fun cq9 => ?_) (fun cq9 => ?_)
  · skip
    refine G.iconst (pc := 16) cx dX6_couldBeFined_16 (v := 0) (by decide) ?_
    refine G.zret (pc := 17) cx rfl dX6_couldBeFined_17 rfl ?_ ?_ rfl
    · refine congrArg (fun x => some (Value.int x)) ?_
      (try clear hin9); (try clear cx); first | rfl | (refine b2_t ?_; grind) | (refine b2_f ?_; grind) | (refine (b2_t ?_).symm; grind) | (refine (b2_f ?_).symm; grind) | (simp [*]; done) | (simp_all; done) | grind
    · rfl
  · skip
    refine G.iconst (pc := 12) cx dX6_couldBeFined_12 (v := 1) (by decide) ?_
    refine G.goto (pc := 13) cx dX6_couldBeFined_13 (tgt := 17) (by decide) ?_
    refine G.zret (pc := 17) cx rfl dX6_couldBeFined_17 rfl ?_ ?_ rfl
    · refine congrArg (fun x => some (Value.int x)) ?_
      (try clear hin9); (try clear cx); first | rfl | (refine b2_t ?_; grind) | (refine b2_f ?_; grind) | (refine (b2_t ?_).symm; grind) | (refine (b2_f ?_).symm; grind) | (simp [*]; done) | (simp_all; done) | grind
    · rfl
set_option maxHeartbeats 4000000 in
set_option maxRecDepth 100000 in
theorem c_X6_tell (l : Launch) (K : KT) (sz : Nat) (b : Nat) (z : Zt) (V : VW) (k : Nat) (q : Int32) (hk : k < 16) : Ct l K yX6_tell cX6_tell 2 (some .int) 2 [.ref (b + 2 + k), .int q] (bw K b z V) sz (some (.int (cTellS z k q))) (bw K b z V) sz 0 0 := by
  refine Ct.ofG (by decide) (Nat.le_of_ble_eq_true rfl) ?_
  intro p9 e9 s9 m9 a9 b9 t9 c9 cx hin9
  refine G.lv0 (lv2 := [(0, .ref (b + 2 + k)), (1, .int q)]) rfl ?_
  refine G.iload_n (pc := 0) cx dX6_tell_0 rfl 1 rfl ?_
  by_cases sw1_0 : q = 0
  · subst sw1_0
    refine G.tableIn (pc := 1) cx dX6_tell_1 (off := 67) (tgt := 68) (by decide) (by decide) (by decide) (by decide) ?_
    refine G.aload_n (pc := 68) cx dX6_tell_68 rfl 0 rfl ?_
    refine G.getS (pc := 69) cx dX6_tell_69 0 wm_fl_X6_9 (by decide) (by omega) rfl ?_
    refine G.iret (pc := 72) cx rfl dX6_tell_72 ?_ ?_ rfl
    · refine congrArg (fun x => some (Value.int x)) ?_
      (try clear hin9); (try clear cx); simp [cTellS, *]
    · rfl
  by_cases sw1_1 : q = 1
  · subst sw1_1
    refine G.tableIn (pc := 1) cx dX6_tell_1 (off := 72) (tgt := 73) (by decide) (by decide) (by decide) (by decide) ?_
    refine G.aload_n (pc := 73) cx dX6_tell_73 rfl 0 rfl ?_
    refine G.getS (pc := 74) cx dX6_tell_74 1 wm_fl_X6_15 (by decide) (by omega) rfl ?_
    refine G.iret (pc := 77) cx rfl dX6_tell_77 ?_ ?_ rfl
    · refine congrArg (fun x => some (Value.int x)) ?_
      (try clear hin9); (try clear cx); simp [cTellS, *]
    · rfl
  by_cases sw1_2 : q = 2
  · subst sw1_2
    refine G.tableIn (pc := 1) cx dX6_tell_1 (off := 77) (tgt := 78) (by decide) (by decide) (by decide) (by decide) ?_
    refine G.aload_n (pc := 78) cx dX6_tell_78 rfl 0 rfl ?_
    refine G.getS (pc := 79) cx dX6_tell_79 2 wm_fl_X6_18 (by decide) (by omega) rfl ?_
    refine G.iret (pc := 82) cx rfl dX6_tell_82 ?_ ?_ rfl
    · refine congrArg (fun x => some (Value.int x)) ?_
      (try clear hin9); (try clear cx); simp [cTellS, *]
    · rfl
  by_cases sw1_3 : q = 3
  · subst sw1_3
    refine G.tableIn (pc := 1) cx dX6_tell_1 (off := 82) (tgt := 83) (by decide) (by decide) (by decide) (by decide) ?_
    refine G.sipush (pc := 83) cx dX6_tell_83 (v := 10000) (by decide) ?_
    refine G.aload_n (pc := 86) cx dX6_tell_86 rfl 0 rfl ?_
    refine G.callV0 (pc := 87) (rest := [.int 10000]) (st1 := [.int (cBal z k), .int 10000]) cx (c_X6_balance l K sz b z V k (by omega)) ok_X6_balance dX6_tell_87 wm_ml_X6_58 rfl (bw_s (by omega)) rfl rfl (Nat.le_of_ble_eq_true rfl) ⟨Nat.le_of_ble_eq_true rfl, Nat.le_of_ble_eq_true rfl⟩ rfl ?_
    refine G.iadd (pc := 90) cx dX6_tell_90 ?_
    refine G.iret (pc := 91) cx rfl dX6_tell_91 ?_ ?_ rfl
    · refine congrArg (fun x => some (Value.int x)) ?_
      (try clear hin9); (try clear cx); simp [cTellS, *]
    · rfl
  by_cases sw1_4 : q = 4
  · subst sw1_4
    refine G.tableIn (pc := 1) cx dX6_tell_1 (off := 82) (tgt := 83) (by decide) (by decide) (by decide) (by decide) ?_
    refine G.sipush (pc := 83) cx dX6_tell_83 (v := 10000) (by decide) ?_
    refine G.aload_n (pc := 86) cx dX6_tell_86 rfl 0 rfl ?_
    refine G.callV0 (pc := 87) (rest := [.int 10000]) (st1 := [.int (cBal z k), .int 10000]) cx (c_X6_balance l K sz b z V k (by omega)) ok_X6_balance dX6_tell_87 wm_ml_X6_58 rfl (bw_s (by omega)) rfl rfl (Nat.le_of_ble_eq_true rfl) ⟨Nat.le_of_ble_eq_true rfl, Nat.le_of_ble_eq_true rfl⟩ rfl ?_
    refine G.iadd (pc := 90) cx dX6_tell_90 ?_
    refine G.iret (pc := 91) cx rfl dX6_tell_91 ?_ ?_ rfl
    · refine congrArg (fun x => some (Value.int x)) ?_
      (try clear hin9); (try clear cx); simp [cTellS, *]
    · rfl
  by_cases sw1_5 : q = 5
  · subst sw1_5
    refine G.tableIn (pc := 1) cx dX6_tell_1 (off := 91) (tgt := 92) (by decide) (by decide) (by decide) (by decide) ?_
    refine G.aload_n (pc := 92) cx dX6_tell_92 rfl 0 rfl ?_
    refine G.getS (pc := 93) cx dX6_tell_93 3 wm_fl_X6_21 (by decide) (by omega) rfl ?_
    refine G.iret (pc := 96) cx rfl dX6_tell_96 ?_ ?_ rfl
    · refine congrArg (fun x => some (Value.int x)) ?_
      (try clear hin9); (try clear cx); simp [cTellS, *]
    · rfl
  by_cases sw1_6 : q = 6
  · subst sw1_6
    refine G.tableIn (pc := 1) cx dX6_tell_1 (off := 96) (tgt := 97) (by decide) (by decide) (by decide) (by decide) ?_
    refine G.aload_n (pc := 97) cx dX6_tell_97 rfl 0 rfl ?_
    refine G.getS (pc := 98) cx dX6_tell_98 4 wm_fl_X6_24 (by decide) (by omega) rfl ?_
    refine G.iret (pc := 101) cx rfl dX6_tell_101 ?_ ?_ rfl
    · refine congrArg (fun x => some (Value.int x)) ?_
      (try clear hin9); (try clear cx); simp [cTellS, *]
    · rfl
  by_cases sw1_7 : q = 7
  · subst sw1_7
    refine G.tableIn (pc := 1) cx dX6_tell_1 (off := 101) (tgt := 102) (by decide) (by decide) (by decide) (by decide) ?_
    refine G.aload_n (pc := 102) cx dX6_tell_102 rfl 0 rfl ?_
    refine G.callV0 (pc := 103) (rest := []) (st1 := [.int (zEarn z k)]) cx (c_X6_earned l K sz b z V k (by omega)) ok_X6_earned dX6_tell_103 wm_ml_X6_61 rfl (bw_s (by omega)) rfl rfl (Nat.le_of_ble_eq_true rfl) ⟨Nat.le_of_ble_eq_true rfl, Nat.le_of_ble_eq_true rfl⟩ rfl ?_
    refine G.iret (pc := 106) cx rfl dX6_tell_106 ?_ ?_ rfl
    · refine congrArg (fun x => some (Value.int x)) ?_
      (try clear hin9); (try clear cx); simp [cTellS, *]
    · rfl
  by_cases sw1_8 : q = 8
  · subst sw1_8
    refine G.tableIn (pc := 1) cx dX6_tell_1 (off := 106) (tgt := 107) (by decide) (by decide) (by decide) (by decide) ?_
    refine G.aload_n (pc := 107) cx dX6_tell_107 rfl 0 rfl ?_
    refine G.getS (pc := 108) cx dX6_tell_108 5 wm_fl_X6_27 (by decide) (by omega) rfl ?_
    refine G.iret (pc := 111) cx rfl dX6_tell_111 ?_ ?_ rfl
    · refine congrArg (fun x => some (Value.int x)) ?_
      (try clear hin9); (try clear cx); simp [cTellS, *]
    · rfl
  by_cases sw1_9 : q = 9
  · subst sw1_9
    refine G.tableIn (pc := 1) cx dX6_tell_1 (off := 111) (tgt := 112) (by decide) (by decide) (by decide) (by decide) ?_
    refine G.aload_n (pc := 112) cx dX6_tell_112 rfl 0 rfl ?_
    refine G.getS (pc := 113) cx dX6_tell_113 6 wm_fl_X6_30 (by decide) (by omega) rfl ?_
    refine G.iret (pc := 116) cx rfl dX6_tell_116 ?_ ?_ rfl
    · refine congrArg (fun x => some (Value.int x)) ?_
      (try clear hin9); (try clear cx); simp [cTellS, *]
    · rfl
  by_cases sw1_10 : q = 10
  · subst sw1_10
    refine G.tableIn (pc := 1) cx dX6_tell_1 (off := 116) (tgt := 117) (by decide) (by decide) (by decide) (by decide) ?_
    refine G.aload_n (pc := 117) cx dX6_tell_117 rfl 0 rfl ?_
    refine G.getS (pc := 118) cx dX6_tell_118 7 wm_fl_X6_33 (by decide) (by omega) rfl ?_
    refine G.iret (pc := 121) cx rfl dX6_tell_121 ?_ ?_ rfl
    · refine congrArg (fun x => some (Value.int x)) ?_
      (try clear hin9); (try clear cx); simp [cTellS, *]
    · rfl
  by_cases sw1_11 : q = 11
  · subst sw1_11
    refine G.tableIn (pc := 1) cx dX6_tell_1 (off := 121) (tgt := 122) (by decide) (by decide) (by decide) (by decide) ?_
    refine G.aload_n (pc := 122) cx dX6_tell_122 rfl 0 rfl ?_
    refine G.getS (pc := 123) cx dX6_tell_123 8 wm_fl_X6_36 (by decide) (by omega) rfl ?_
    refine G.iret (pc := 126) cx rfl dX6_tell_126 ?_ ?_ rfl
    · refine congrArg (fun x => some (Value.int x)) ?_
      (try clear hin9); (try clear cx); simp [cTellS, *]
    · rfl
  by_cases sw1_12 : q = 12
  · subst sw1_12
    refine G.tableIn (pc := 1) cx dX6_tell_1 (off := 126) (tgt := 127) (by decide) (by decide) (by decide) (by decide) ?_
    refine G.aload_n (pc := 127) cx dX6_tell_127 rfl 0 rfl ?_
    refine G.getS (pc := 128) cx dX6_tell_128 9 wm_fl_X6_39 (by decide) (by omega) rfl ?_
    refine G.iret (pc := 131) cx rfl dX6_tell_131 ?_ ?_ rfl
    · refine congrArg (fun x => some (Value.int x)) ?_
      (try clear hin9); (try clear cx); simp [cTellS, *]
    · rfl
  refine G.tableDef (pc := 1) cx dX6_tell_1 (tgt := 132) ?_ (by decide) ?_
  · have g0 := sw_ne sw1_0 (by decide : (0 : Int) = (0 : Int32).toInt); have g1 := sw_ne sw1_1 (by decide : (1 : Int) = (1 : Int32).toInt); have g2 := sw_ne sw1_2 (by decide : (2 : Int) = (2 : Int32).toInt); have g3 := sw_ne sw1_3 (by decide : (3 : Int) = (3 : Int32).toInt); have g4 := sw_ne sw1_4 (by decide : (4 : Int) = (4 : Int32).toInt); have g5 := sw_ne sw1_5 (by decide : (5 : Int) = (5 : Int32).toInt); have g6 := sw_ne sw1_6 (by decide : (6 : Int) = (6 : Int32).toInt); have g7 := sw_ne sw1_7 (by decide : (7 : Int) = (7 : Int32).toInt); have g8 := sw_ne sw1_8 (by decide : (8 : Int) = (8 : Int32).toInt); have g9 := sw_ne sw1_9 (by decide : (9 : Int) = (9 : Int32).toInt); have g10 := sw_ne sw1_10 (by decide : (10 : Int) = (10 : Int32).toInt); have g11 := sw_ne sw1_11 (by decide : (11 : Int) = (11 : Int32).toInt); have g12 := sw_ne sw1_12 (by decide : (12 : Int) = (12 : Int32).toInt)
    rcases (show q.toInt < 0 ∨ 12 < q.toInt by omega) with h | h
    · exact Or.inl h
    · exact Or.inr (Or.inl h)
  refine G.ldc (pc := 132) cx dX6_tell_132 (v := (-1000001)) wm_ct_X6_64 ?_
  refine G.iret (pc := 134) cx rfl dX6_tell_134 ?_ ?_ rfl
  · refine congrArg (fun x => some (Value.int x)) ?_
    (try clear hin9); (try clear cx); simp [cTellS, *]
  · rfl
set_option maxHeartbeats 4000000 in
set_option maxRecDepth 100000 in
theorem c_X3_takeIn (l : Launch) (K : KT) (sz : Nat) (b : Nat) (z : Zt) (V : VW) (j : Nat) (m : Int32) (y : Int32) (hj : j < 6) : Ct l K yX3_takeIn cX3_takeIn 3 none 0 [.ref (b + 19 + j), .int m, .int y] (bw K b z V) sz none (bw K b (upd (upd (upd z (160 + 5 * j + 0) (z (160 + 5 * j) + m)) (160 + 5 * j + 2) (z (160 + 5 * j + 2) + m)) (160 + 5 * j + 1) y) V) sz 0 0 := by
  refine Ct.ofG (by decide) (Nat.le_of_ble_eq_true rfl) ?_
  intro p9 e9 s9 m9 a9 b9 t9 c9 cx hin9
  refine G.lv0 (lv2 := [(0, .ref (b + 19 + j)), (1, .int m), (2, .int y)]) rfl ?_
  refine G.aload_n (pc := 0) cx dX3_takeIn_0 rfl 0 rfl ?_
  refine G.dup (pc := 1) cx dX3_takeIn_1 rfl ?_
  refine G.getI (pc := 2) cx dX3_takeIn_2 0 wm_fl_X3_9 (by decide) (by omega) rfl ?_
  refine G.iload_n (pc := 5) cx dX3_takeIn_5 rfl 1 rfl ?_
  refine G.iadd (pc := 6) cx dX3_takeIn_6 ?_
  refine G.putI (pc := 7) cx dX3_takeIn_7 0 wm_fl_X3_9 (by decide) (by omega) ?_
  refine G.aload_n (pc := 10) cx dX3_takeIn_10 rfl 0 rfl ?_
  refine G.dup (pc := 11) cx dX3_takeIn_11 rfl ?_
  refine G.getI (pc := 12) cx dX3_takeIn_12 2 wm_fl_X3_18 (by decide) (by omega) (congrArg (fun x => some (Value.int x)) (upd_n (i := 160 + 5 * j + 0) (j := 160 + 5 * j + 2) z ((z (160 + 5 * j)) + m) (by omega))) ?_
  refine G.iload_n (pc := 15) cx dX3_takeIn_15 rfl 1 rfl ?_
  refine G.iadd (pc := 16) cx dX3_takeIn_16 ?_
  refine G.putI (pc := 17) cx dX3_takeIn_17 2 wm_fl_X3_18 (by decide) (by omega) ?_
  refine G.aload_n (pc := 20) cx dX3_takeIn_20 rfl 0 rfl ?_
  refine G.iload_n (pc := 21) cx dX3_takeIn_21 rfl 2 rfl ?_
  refine G.putI (pc := 22) cx dX3_takeIn_22 1 wm_fl_X3_15 (by decide) (by omega) ?_
  refine G.vret (pc := 25) cx rfl dX3_takeIn_25 rfl ?_ rfl
  · refine congrArg (fun x => bw K b x V) ?_
    (try clear hin9); (try clear cx); rfl
set_option maxHeartbeats 4000000 in
set_option maxRecDepth 100000 in
theorem c_X3_giveOut (l : Launch) (K : KT) (sz : Nat) (b : Nat) (z : Zt) (V : VW) (j : Nat) (m : Int32) (y : Int32) (hj : j < 6) : Ct l K yX3_giveOut cX3_giveOut 3 none 0 [.ref (b + 19 + j), .int m, .int y] (bw K b z V) sz none (bw K b (upd (upd (upd z (160 + 5 * j + 0) (z (160 + 5 * j) - m)) (160 + 5 * j + 3) (z (160 + 5 * j + 3) + m)) (160 + 5 * j + 4) (z (160 + 5 * j + 4) + y)) V) sz 0 0 := by
  refine Ct.ofG (by decide) (Nat.le_of_ble_eq_true rfl) ?_
  intro p9 e9 s9 m9 a9 b9 t9 c9 cx hin9
  refine G.lv0 (lv2 := [(0, .ref (b + 19 + j)), (1, .int m), (2, .int y)]) rfl ?_
  refine G.aload_n (pc := 0) cx dX3_giveOut_0 rfl 0 rfl ?_
  refine G.dup (pc := 1) cx dX3_giveOut_1 rfl ?_
  refine G.getI (pc := 2) cx dX3_giveOut_2 0 wm_fl_X3_9 (by decide) (by omega) rfl ?_
  refine G.iload_n (pc := 5) cx dX3_giveOut_5 rfl 1 rfl ?_
  refine G.isub (pc := 6) cx dX3_giveOut_6 ?_
  refine G.putI (pc := 7) cx dX3_giveOut_7 0 wm_fl_X3_9 (by decide) (by omega) ?_
  refine G.aload_n (pc := 10) cx dX3_giveOut_10 rfl 0 rfl ?_
  refine G.dup (pc := 11) cx dX3_giveOut_11 rfl ?_
  refine G.getI (pc := 12) cx dX3_giveOut_12 3 wm_fl_X3_21 (by decide) (by omega) (congrArg (fun x => some (Value.int x)) (upd_n (i := 160 + 5 * j + 0) (j := 160 + 5 * j + 3) z ((z (160 + 5 * j)) - m) (by omega))) ?_
  refine G.iload_n (pc := 15) cx dX3_giveOut_15 rfl 1 rfl ?_
  refine G.iadd (pc := 16) cx dX3_giveOut_16 ?_
  refine G.putI (pc := 17) cx dX3_giveOut_17 3 wm_fl_X3_21 (by decide) (by omega) ?_
  refine G.aload_n (pc := 20) cx dX3_giveOut_20 rfl 0 rfl ?_
  refine G.dup (pc := 21) cx dX3_giveOut_21 rfl ?_
  refine G.getI (pc := 22) cx dX3_giveOut_22 4 wm_fl_X3_24 (by decide) (by omega) (congrArg (fun x => some (Value.int x)) ((upd_n (i := 160 + 5 * j + 3) (j := 160 + 5 * j + 4) (upd z (160 + 5 * j + 0) ((z (160 + 5 * j)) - m)) ((z (160 + 5 * j + 3)) + m) (by omega)).trans (upd_n (i := 160 + 5 * j + 0) (j := 160 + 5 * j + 4) z ((z (160 + 5 * j)) - m) (by omega)))) ?_
  refine G.iload_n (pc := 25) cx dX3_giveOut_25 rfl 2 rfl ?_
  refine G.iadd (pc := 26) cx dX3_giveOut_26 ?_
  refine G.putI (pc := 27) cx dX3_giveOut_27 4 wm_fl_X3_24 (by decide) (by omega) ?_
  refine G.vret (pc := 30) cx rfl dX3_giveOut_30 rfl ?_ rfl
  · refine congrArg (fun x => bw K b x V) ?_
    (try clear hin9); (try clear cx); rfl
set_option maxHeartbeats 4000000 in
set_option maxRecDepth 100000 in
theorem c_X3_tell (l : Launch) (K : KT) (sz : Nat) (b : Nat) (z : Zt) (V : VW) (j : Nat) (q : Int32) (hj : j < 6) : Ct l K yX3_tell cX3_tell 2 (some .int) 0 [.ref (b + 19 + j), .int q] (bw K b z V) sz (some (.int (cTellI z j q))) (bw K b z V) sz 0 0 := by
  refine Ct.ofG (by decide) (Nat.le_of_ble_eq_true rfl) ?_
  intro p9 e9 s9 m9 a9 b9 t9 c9 cx hin9
  refine G.lv0 (lv2 := [(0, .ref (b + 19 + j)), (1, .int q)]) rfl ?_
  refine G.iload_n (pc := 0) cx dX3_tell_0 rfl 1 rfl ?_
  by_cases sw1_0 : q = 0
  · subst sw1_0
    refine G.tableIn (pc := 1) cx dX3_tell_1 (off := 35) (tgt := 36) (by decide) (by decide) (by decide) (by decide) ?_
    refine G.aload_n (pc := 36) cx dX3_tell_36 rfl 0 rfl ?_
    refine G.getI (pc := 37) cx dX3_tell_37 0 wm_fl_X3_9 (by decide) (by omega) rfl ?_
    refine G.iret (pc := 40) cx rfl dX3_tell_40 ?_ ?_ rfl
    · refine congrArg (fun x => some (Value.int x)) ?_
      (try clear hin9); (try clear cx); simp [cTellI, *]
    · rfl
  by_cases sw1_1 : q = 1
  · subst sw1_1
    refine G.tableIn (pc := 1) cx dX3_tell_1 (off := 40) (tgt := 41) (by decide) (by decide) (by decide) (by decide) ?_
    refine G.aload_n (pc := 41) cx dX3_tell_41 rfl 0 rfl ?_
    refine G.getI (pc := 42) cx dX3_tell_42 1 wm_fl_X3_15 (by decide) (by omega) rfl ?_
    refine G.iret (pc := 45) cx rfl dX3_tell_45 ?_ ?_ rfl
    · refine congrArg (fun x => some (Value.int x)) ?_
      (try clear hin9); (try clear cx); simp [cTellI, *]
    · rfl
  by_cases sw1_2 : q = 2
  · subst sw1_2
    refine G.tableIn (pc := 1) cx dX3_tell_1 (off := 45) (tgt := 46) (by decide) (by decide) (by decide) (by decide) ?_
    refine G.aload_n (pc := 46) cx dX3_tell_46 rfl 0 rfl ?_
    refine G.getI (pc := 47) cx dX3_tell_47 2 wm_fl_X3_18 (by decide) (by omega) rfl ?_
    refine G.iret (pc := 50) cx rfl dX3_tell_50 ?_ ?_ rfl
    · refine congrArg (fun x => some (Value.int x)) ?_
      (try clear hin9); (try clear cx); simp [cTellI, *]
    · rfl
  by_cases sw1_3 : q = 3
  · subst sw1_3
    refine G.tableIn (pc := 1) cx dX3_tell_1 (off := 50) (tgt := 51) (by decide) (by decide) (by decide) (by decide) ?_
    refine G.aload_n (pc := 51) cx dX3_tell_51 rfl 0 rfl ?_
    refine G.getI (pc := 52) cx dX3_tell_52 3 wm_fl_X3_21 (by decide) (by omega) rfl ?_
    refine G.iret (pc := 55) cx rfl dX3_tell_55 ?_ ?_ rfl
    · refine congrArg (fun x => some (Value.int x)) ?_
      (try clear hin9); (try clear cx); simp [cTellI, *]
    · rfl
  by_cases sw1_4 : q = 4
  · subst sw1_4
    refine G.tableIn (pc := 1) cx dX3_tell_1 (off := 55) (tgt := 56) (by decide) (by decide) (by decide) (by decide) ?_
    refine G.aload_n (pc := 56) cx dX3_tell_56 rfl 0 rfl ?_
    refine G.getI (pc := 57) cx dX3_tell_57 4 wm_fl_X3_24 (by decide) (by omega) rfl ?_
    refine G.iret (pc := 60) cx rfl dX3_tell_60 ?_ ?_ rfl
    · refine congrArg (fun x => some (Value.int x)) ?_
      (try clear hin9); (try clear cx); simp [cTellI, *]
    · rfl
  refine G.tableDef (pc := 1) cx dX3_tell_1 (tgt := 61) ?_ (by decide) ?_
  · have g0 := sw_ne sw1_0 (by decide : (0 : Int) = (0 : Int32).toInt); have g1 := sw_ne sw1_1 (by decide : (1 : Int) = (1 : Int32).toInt); have g2 := sw_ne sw1_2 (by decide : (2 : Int) = (2 : Int32).toInt); have g3 := sw_ne sw1_3 (by decide : (3 : Int) = (3 : Int32).toInt); have g4 := sw_ne sw1_4 (by decide : (4 : Int) = (4 : Int32).toInt)
    rcases (show q.toInt < 0 ∨ 4 < q.toInt by omega) with h | h
    · exact Or.inl h
    · exact Or.inr (Or.inl h)
  refine G.ldc (pc := 61) cx dX3_tell_61 (v := (-1000001)) wm_ct_X3_27 ?_
  refine G.iret (pc := 63) cx rfl dX3_tell_63 ?_ ?_ rfl
  · refine congrArg (fun x => some (Value.int x)) ?_
    (try clear hin9); (try clear cx); simp [cTellI, *]
  · rfl
set_option maxHeartbeats 4000000 in
set_option maxRecDepth 100000 in
theorem c_X8_missingFor (l : Launch) (K : KT) (sz : Nat) (b : Nat) (z : Zt) (V : VW) (x : Int32)  : Ct l K yX8_missingFor cX8_missingFor 2 (some .int) 0 [.ref (b + 30), .int x] (bw K b z V) sz (some (.int (cMiss z x))) (bw K b z V) sz 0 0 := by
  refine Ct.ofG (by decide) (Nat.le_of_ble_eq_true rfl) ?_
  intro p9 e9 s9 m9 a9 b9 t9 c9 cx hin9
  refine G.lv0 (lv2 := [(0, .ref (b + 30)), (1, .int x)]) rfl ?_
  refine G.iload_n (pc := 0) cx dX8_missingFor_0 rfl 1 rfl ?_
  refine G.aload_n (pc := 1) cx dX8_missingFor_1 rfl 0 rfl ?_
  refine G.getT (pc := 2) cx dX8_missingFor_2 0 wm_fl_X8_9 (by decide) rfl ?_
  refine G.icmp_le (pc := 5) cx dX8_missingFor_5 (tgt := 17) (by decide) (fun cq5 => ?_) (fun cq5 => ?_)
  · skip
    refine G.iconst (pc := 17) cx dX8_missingFor_17 (v := 0) (by decide) ?_
    refine G.iret (pc := 18) cx rfl dX8_missingFor_18 ?_ ?_ rfl
    · refine congrArg (fun x => some (Value.int x)) ?_
      (try clear hin9); (try clear cx); first | rfl | (refine b2_t ?_; grind) | (refine b2_f ?_; grind) | (refine (b2_t ?_).symm; grind) | (refine (b2_f ?_).symm; grind) | (simp [*, cMiss, Int32.not_le]; done) | (simp_all [cMiss, Int32.not_le]; done) | grind [cMiss, Int32.not_le]
    · rfl
  · skip
    refine G.iload_n (pc := 8) cx dX8_missingFor_8 rfl 1 rfl ?_
    refine G.aload_n (pc := 9) cx dX8_missingFor_9 rfl 0 rfl ?_
    refine G.getT (pc := 10) cx dX8_missingFor_10 0 wm_fl_X8_9 (by decide) rfl ?_
    refine G.isub (pc := 13) cx dX8_missingFor_13 ?_
    refine G.goto (pc := 14) cx dX8_missingFor_14 (tgt := 18) (by decide) ?_
    refine G.iret (pc := 18) cx rfl dX8_missingFor_18 ?_ ?_ rfl
    · refine congrArg (fun x => some (Value.int x)) ?_
      (try clear hin9); (try clear cx); first | rfl | (refine b2_t ?_; grind) | (refine b2_f ?_; grind) | (refine (b2_t ?_).symm; grind) | (refine (b2_f ?_).symm; grind) | (simp [*, cMiss, Int32.not_le]; done) | (simp_all [cMiss, Int32.not_le]; done) | grind [cMiss, Int32.not_le]
    · rfl
set_option maxHeartbeats 4000000 in
set_option maxRecDepth 100000 in
theorem c_X8_takeCash (l : Launch) (K : KT) (sz : Nat) (b : Nat) (z : Zt) (V : VW) (x : Int32)  : Ct l K yX8_takeCash cX8_takeCash 3 none 1 [.ref (b + 30), .int x] (bw K b z V) sz none (bw K b (cTake z x) V) sz 0 0 := by
  refine Ct.ofG (by decide) (Nat.le_of_ble_eq_true rfl) ?_
  intro p9 e9 s9 m9 a9 b9 t9 c9 cx hin9
  refine G.lv0 (lv2 := [(0, .ref (b + 30)), (1, .int x)]) rfl ?_
  refine G.aload_n (pc := 0) cx dX8_takeCash_0 rfl 0 rfl ?_
  refine G.iload_n (pc := 1) cx dX8_takeCash_1 rfl 1 rfl ?_
  refine G.callV0 (pc := 2) (rest := []) (st1 := [.int (cMiss z x)]) cx (c_X8_missingFor l K sz b z V x) ok_X8_missingFor dX8_takeCash_2 wm_ml_X8_36 rfl bw_t rfl rfl (Nat.le_of_ble_eq_true rfl) ⟨Nat.le_of_ble_eq_true rfl, Nat.le_of_ble_eq_true rfl⟩ rfl ?_
  refine G.istore_n (pc := 5) cx dX8_takeCash_5 rfl (by decide) rfl ?_
  refine G.aload_n (pc := 6) cx dX8_takeCash_6 rfl 1 rfl ?_
  refine G.dup (pc := 7) cx dX8_takeCash_7 rfl ?_
  refine G.getT (pc := 8) cx dX8_takeCash_8 1 wm_fl_X8_15 (by decide) rfl ?_
  refine G.iload_n (pc := 11) cx dX8_takeCash_11 rfl 0 rfl ?_
  refine G.iadd (pc := 12) cx dX8_takeCash_12 ?_
  refine G.putT (pc := 13) cx dX8_takeCash_13 1 wm_fl_X8_15 (by decide) ?_
  refine G.aload_n (pc := 16) cx dX8_takeCash_16 rfl 1 rfl ?_
  refine G.dup (pc := 17) cx dX8_takeCash_17 rfl ?_
  refine G.getT (pc := 18) cx dX8_takeCash_18 0 wm_fl_X8_9 (by decide) (congrArg (fun x => some (Value.int x)) (upd_n (i := 195 + 1) (j := 195) z ((z 196) + (cMiss z x)) (by omega))) ?_
  refine G.iload_n (pc := 21) cx dX8_takeCash_21 rfl 0 rfl ?_
  refine G.iload_n (pc := 22) cx dX8_takeCash_22 rfl 2 rfl ?_
  refine G.isub (pc := 23) cx dX8_takeCash_23 ?_
  refine G.iadd (pc := 24) cx dX8_takeCash_24 ?_
  refine G.putT (pc := 25) cx dX8_takeCash_25 0 wm_fl_X8_9 (by decide) ?_
  refine G.vret (pc := 28) cx rfl dX8_takeCash_28 rfl ?_ rfl
  · refine congrArg (fun x => bw K b x V) ?_
    (try clear hin9); (try clear cx); rfl
set_option maxHeartbeats 4000000 in
set_option maxRecDepth 100000 in
theorem c_X1_putAhead (l : Launch) (K : KT) (sz : Nat) (b : Nat) (z : Zt) (V : VW) (w : Nat) (x : Int32) (hw : w < 3) : Ct l K yX1_putAhead cX1_putAhead 3 none 0 [.ref (b + 27 + w), .int x] (bw K b z V) sz none (bw K b (cPut z w x) V) sz 0 0 := by
  refine Ct.ofG (by decide) (Nat.le_of_ble_eq_true rfl) ?_
  intro p9 e9 s9 m9 a9 b9 t9 c9 cx hin9
  refine G.lv0 (lv2 := [(0, .ref (b + 27 + w)), (1, .int x)]) rfl ?_
  refine G.aload_n (pc := 0) cx dX1_putAhead_0 rfl 0 rfl ?_
  refine G.alenV (pc := 1) cx dX1_putAhead_1 0 rfl (bw_ea (k := w) (by omega)) (v := 8) rfl ?_
  refine G.iconst (pc := 2) cx dX1_putAhead_2 (v := 1) (by decide) ?_
  refine G.isubN (pc := 3) cx dX1_putAhead_3 8 1 (by omega) ?_
  refine G.istore_n (pc := 4) cx dX1_putAhead_4 rfl (by decide) rfl ?_
  have L5_1 : ∀ (f k5 : Nat), 7 - k5 < f → k5 ≤ 7 → G K p9 l e9 (rmL 0 0 0) s9 m9 a9 b9 t9 c9 (MQ b9 (QCt K none (bw K b (cPut z w x) V) sz) a9 s9 0 0 (kA K)) 3 (bw K b (zAhL z w (8 - k5)) V) sz 0 0 5 [(0, .ref (b + 27 + w)), (1, .int x), (2, .int (nI (7 - k5)))] [] := by
    intro f
    induction f with
    | zero => intro k5 h9; omega
    | succ f ih5 =>
      intro k5 h95 h85
      refine G.iload_n (pc := 5) cx dX1_putAhead_5 rfl 2 rfl ?_
      refine G.if_leN (pc := 6) cx (7 - k5) (by omega) dX1_putAhead_6 (tgt := 23) (by decide) (fun cq6 => ?_) (fun cq6 => ?_)
      · skip
        have ex5 : k5 = 7 := by omega
        try rw [ex5]
        refine G.aload_n (pc := 23) cx dX1_putAhead_23 rfl 0 rfl ?_
        refine G.alenV (pc := 24) cx dX1_putAhead_24 0 rfl (bw_ea (k := w) (by omega)) (v := 8) rfl ?_
        refine G.if_leN (pc := 25) cx 8 (by omega) dX1_putAhead_25 (tgt := 32) (by decide) (fun cq25 => ?_) (fun cq25 => ?_)
        · skip
          exact absurd cq25 (by first | omega | simp_all)
        · skip
          refine G.aload_n (pc := 28) cx dX1_putAhead_28 rfl 0 rfl ?_
          refine G.iconst (pc := 29) cx dX1_putAhead_29 (v := 0) (by decide) ?_
          refine G.iload_n (pc := 30) cx dX1_putAhead_30 rfl 1 rfl ?_
          refine G.iastV (pc := 31) cx dX1_putAhead_31 (bw_ea (k := w) (by omega)) (j := 0) rfl (by omega) (by decide) (bwEa (k := w) (by omega) (by omega)) ?_
          refine G.vret (pc := 32) cx rfl dX1_putAhead_32 rfl ?_ rfl
          · refine congrArg (fun x => bw K b x V) ?_
            (try clear L5_1); (try clear ih5); (try clear hin9); (try clear cx); rfl
      · skip
        refine G.aload_n (pc := 9) cx dX1_putAhead_9 rfl 0 rfl ?_
        refine G.iload_n (pc := 10) cx dX1_putAhead_10 rfl 2 rfl ?_
        refine G.aload_n (pc := 11) cx dX1_putAhead_11 rfl 0 rfl ?_
        refine G.iload_n (pc := 12) cx dX1_putAhead_12 rfl 2 rfl ?_
        refine G.iconst (pc := 13) cx dX1_putAhead_13 (v := 1) (by decide) ?_
        refine G.isubN (pc := 14) cx dX1_putAhead_14 (7 - k5) 1 (by omega) ?_
        refine G.ialdV (pc := 15) cx dX1_putAhead_15 (bw_ea (k := w) (by omega)) (j := ((7 - k5) - 1)) rfl (by omega) (by decide) (entF_at (by omega)) ?_
        refine G.iastV (pc := 16) cx dX1_putAhead_16 (bw_ea (k := w) (by omega)) (j := (7 - k5)) rfl (by omega) (by decide) (bwEa (k := w) (by omega) (by omega)) ?_
        refine G.iinc (pc := 17) cx dX1_putAhead_17 (v := nI (7 - (k5 + 1))) (k := 2) rfl (nI_dec (by omega)) (by decide) rfl ?_
        refine G.goto (pc := 20) cx dX1_putAhead_20 (tgt := 5) (by decide) ?_
        refine G.cast (V' := (bw K b (zAhL z w (8 - (k5 + 1))) V)) (congrArg (fun q9 => bw K b q9 V) (by first | rfl | (have e9 := zAhL_s z (w := w) (lo := 7 - k5) hw (by omega) (by omega); rw [show 7 - k5 + 1 = 8 - k5 by omega] at e9; exact e9.trans (congrArg (zAhL z w) (by omega))))) ?_
        refine G.castL (lv' := [(0, .ref (b + 27 + w)), (1, .int x), (2, .int (nI (7 - (k5 + 1))))]) [1, 2, 0] rfl ?_
        exact ih5 (k5 + 1) (by omega) (by omega)
  refine G.cast (V' := (bw K b (zAhL z w (8 - 0)) V)) (congrArg (fun q9 => bw K b q9 V) (by first | exact (zAhL_8 z w).symm | rfl)) ?_
  refine G.castL (lv' := [(0, .ref (b + 27 + w)), (1, .int x), (2, .int (nI (8 - 1)))]) [1, 2, 0] rfl ?_
  refine G.lv0 (lv2 := [(0, .ref (b + 27 + w)), (1, .int x), (2, .int (nI (7 - 0)))]) (congrArg (fun q9 => ([(0, .ref (b + 27 + w)), (1, .int x), (2, .int q9)] : List (Nat × Value))) (show (nI (8 - 1) : Int32) = nI (7 - 0) from by first | exact (zAhL_8 z w).symm | rfl)) ?_
  exact L5_1 (7 + 1) 0 (by omega) (by omega)
set_option maxHeartbeats 4000000 in
set_option maxRecDepth 100000 in
theorem c_X1_numberAt (l : Launch) (K : KT) (sz : Nat) (b : Nat) (z : Zt) (V : VW) (w : Nat) (u : Nat) (hw : w < 3) (hu : u < 2 ^ 31) : Ct l K yX1_numberAt cX1_numberAt 2 (some .int) 0 [.ref (b + 27 + w), .int (nI u)] (bw K b z V) sz (some (.int (if u < 8 then z (207 + 3 * u + w) else -1000004))) (bw K b z V) sz 0 0 := by
  refine Ct.ofG (by decide) (Nat.le_of_ble_eq_true rfl) ?_
  intro p9 e9 s9 m9 a9 b9 t9 c9 cx hin9
  refine G.lv0 (lv2 := [(0, .ref (b + 27 + w)), (1, .int (nI u))]) rfl ?_
  refine G.iload_n (pc := 0) cx dX1_numberAt_0 rfl 1 rfl ?_
  refine G.if_ltN (pc := 1) cx u (by omega) dX1_numberAt_1 (tgt := 16) (by decide) ?_
  refine G.iload_n (pc := 4) cx dX1_numberAt_4 rfl 1 rfl ?_
  refine G.aload_n (pc := 5) cx dX1_numberAt_5 rfl 0 rfl ?_
  refine G.alenV (pc := 6) cx dX1_numberAt_6 0 rfl (bw_ea (k := w) (by omega)) (v := 8) rfl ?_
  refine G.icmp_geN (pc := 7) cx u 8 (by omega) (by omega) dX1_numberAt_7 (tgt := 16) (by decide) (fun cq7 => ?_) (fun cq7 => ?_)
  · skip
    refine G.ldc (pc := 16) cx dX1_numberAt_16 (v := (-1000004)) wm_ct_X1_38 ?_
    refine G.iret (pc := 18) cx rfl dX1_numberAt_18 ?_ ?_ rfl
    · refine congrArg (fun x => some (Value.int x)) ?_
      (try clear hin9); (try clear cx); first | exact (if_pos cq7).symm.symm | exact if_neg (by omega)
    · rfl
  · skip
    refine G.aload_n (pc := 10) cx dX1_numberAt_10 rfl 0 rfl ?_
    refine G.iload_n (pc := 11) cx dX1_numberAt_11 rfl 1 rfl ?_
    refine G.ialdV (pc := 12) cx dX1_numberAt_12 (bw_ea (k := w) (by omega)) (j := u) rfl (by omega) (by decide) (entF_at (by omega)) ?_
    refine G.goto (pc := 13) cx dX1_numberAt_13 (tgt := 18) (by decide) ?_
    refine G.iret (pc := 18) cx rfl dX1_numberAt_18 ?_ ?_ rfl
    · refine congrArg (fun x => some (Value.int x)) ?_
      (try clear hin9); (try clear cx); first | exact (if_pos cq7).symm.symm | exact if_neg (by omega)
    · rfl
set_option maxHeartbeats 4000000 in
set_option maxRecDepth 100000 in
theorem c_X1_enter (l : Launch) (K : KT) (sz : Nat) (b : Nat) (z : Zt) (V : VW) (a : Int32) (q : Int32) (x : Int32)  : Ct l K yX1_enter cX1_enter 4 none 1 [.ref (b + 26), .int a, .int q, .int x] (bw K b z V) sz none (bw K b (cEnter z a q x) V) sz 0 0 := by
  refine Ct.ofG (by decide) (Nat.le_of_ble_eq_true rfl) ?_
  intro p9 e9 s9 m9 a9 b9 t9 c9 cx hin9
  refine G.lv0 (lv2 := [(0, .ref (b + 26)), (1, .int a), (2, .int q), (3, .int x)]) rfl ?_
  have h206 : cPut (cPut (cPut z 0 a) 1 q) 2 x 206 = z 206 := by simp [cPut, zAhL, upd]
  refine G.iload_n (pc := 0) cx dX1_enter_0 rfl 3 rfl ?_
  refine G.if_gt (pc := 1) cx dX1_enter_1 (tgt := 5) (by decide) (fun cq1 => ?_) (fun cq1 => ?_)
  · skip
    refine G.aload_n (pc := 5) cx dX1_enter_5 rfl 0 rfl ?_
    refine G.getE (pc := 6) cx dX1_enter_6 0 wm_fl_X1_9 (by decide) rfl ?_
    refine G.iload_n (pc := 9) cx dX1_enter_9 rfl 1 rfl ?_
    refine G.callS0 (pc := 10) (rest := []) (st1 := []) cx (c_X1_putAhead l K sz b z V 0 a (by omega)) ok_X1_putAhead dX1_enter_10 wm_ml_X1_29 rfl rfl (Nat.le_of_ble_eq_true rfl) ⟨Nat.le_of_ble_eq_true rfl, Nat.le_of_ble_eq_true rfl⟩ rfl ?_
    refine G.aload_n (pc := 13) cx dX1_enter_13 rfl 0 rfl ?_
    refine G.getE (pc := 14) cx dX1_enter_14 1 wm_fl_X1_15 (by decide) rfl ?_
    refine G.iload_n (pc := 17) cx dX1_enter_17 rfl 2 rfl ?_
    refine G.callS0 (pc := 18) (rest := []) (st1 := []) cx (c_X1_putAhead l K sz b (cPut z 0 a) V 1 q (by omega)) ok_X1_putAhead dX1_enter_18 wm_ml_X1_29 rfl rfl (Nat.le_of_ble_eq_true rfl) ⟨Nat.le_of_ble_eq_true rfl, Nat.le_of_ble_eq_true rfl⟩ rfl ?_
    refine G.aload_n (pc := 21) cx dX1_enter_21 rfl 0 rfl ?_
    refine G.getE (pc := 22) cx dX1_enter_22 2 wm_fl_X1_18 (by decide) rfl ?_
    refine G.iload_n (pc := 25) cx dX1_enter_25 rfl 3 rfl ?_
    refine G.callS0 (pc := 26) (rest := []) (st1 := []) cx (c_X1_putAhead l K sz b (cPut (cPut z 0 a) 1 q) V 2 x (by omega)) ok_X1_putAhead dX1_enter_26 wm_ml_X1_29 rfl rfl (Nat.le_of_ble_eq_true rfl) ⟨Nat.le_of_ble_eq_true rfl, Nat.le_of_ble_eq_true rfl⟩ rfl ?_
    refine G.aload_n (pc := 29) cx dX1_enter_29 rfl 0 rfl ?_
    refine G.getE (pc := 30) cx dX1_enter_30 3 wm_fl_X1_25 (by decide) rfl ?_
    refine G.bipush (pc := 33) cx dX1_enter_33 (v := 8) (by decide) ?_
    refine G.icmp_ge (pc := 35) cx dX1_enter_35 (tgt := 48) (by decide) (fun cq35 => ?_) (fun cq35 => ?_)
    · skip
      refine G.vret (pc := 48) cx rfl dX1_enter_48 rfl ?_ rfl
      · refine congrArg (fun x => bw K b x V) ?_
        (try clear hin9); (try clear cx); rw [show cEnter z a q x = _ from if_neg (Int32.not_le.mpr cq1)]; rw [h206] at cq35; first | (rw [h206, if_pos (Int32.not_le.mp cq35)]; done) | (rw [if_neg (Int32.not_lt.mpr cq35)]; funext i; simp only [upd]; by_cases e : i = 206 <;> simp [e, h206])
    · skip
      refine G.aload_n (pc := 38) cx dX1_enter_38 rfl 0 rfl ?_
      refine G.dup (pc := 39) cx dX1_enter_39 rfl ?_
      refine G.getE (pc := 40) cx dX1_enter_40 3 wm_fl_X1_25 (by decide) rfl ?_
      refine G.iconst (pc := 43) cx dX1_enter_43 (v := 1) (by decide) ?_
      refine G.iadd (pc := 44) cx dX1_enter_44 ?_
      refine G.putE (pc := 45) cx dX1_enter_45 wm_fl_X1_25 ?_
      refine G.vret (pc := 48) cx rfl dX1_enter_48 rfl ?_ rfl
      · refine congrArg (fun x => bw K b x V) ?_
        (try clear hin9); (try clear cx); rw [show cEnter z a q x = _ from if_neg (Int32.not_le.mpr cq1)]; rw [h206] at cq35; first | (rw [h206, if_pos (Int32.not_le.mp cq35)]; done) | (rw [if_neg (Int32.not_lt.mpr cq35)]; funext i; simp only [upd]; by_cases e : i = 206 <;> simp [e, h206])
  · skip
    refine G.vret (pc := 4) cx rfl dX1_enter_4 rfl ?_ rfl
    · refine congrArg (fun x => bw K b x V) ?_
      (try clear hin9); (try clear cx); exact (if_pos (Int32.not_lt.mp cq1)).symm
set_option maxHeartbeats 4000000 in
set_option maxRecDepth 100000 in
theorem c_X1_tell (l : Launch) (K : KT) (sz : Nat) (b : Nat) (z : Zt) (V : VW) (g : Int32) (q : Int32) (E : Nat) (hE : z 206 = nI E) (hE8 : E ≤ 8) : Ct l K yX1_tell cX1_tell 3 (some .int) 1 [.ref (b + 26), .int g, .int q] (bw K b z V) sz (some (.int (cTellE z g q))) (bw K b z V) sz 0 0 := by
  refine Ct.ofG (by decide) (Nat.le_of_ble_eq_true rfl) ?_
  intro p9 e9 s9 m9 a9 b9 t9 c9 cx hin9
  refine G.lv0 (lv2 := [(0, .ref (b + 26)), (1, .int g), (2, .int q)]) rfl ?_
  refine G.iload_n (pc := 0) cx dX1_tell_0 rfl 1 rfl ?_
  refine G.if_lt (pc := 1) cx dX1_tell_1 (tgt := 13) (by decide) (fun cq1 => ?_) (fun cq1 => ?_)
  · skip
    refine G.ldc (pc := 13) cx dX1_tell_13 (v := (-1000001)) wm_ct_X1_37 ?_
    refine G.iret (pc := 15) cx rfl dX1_tell_15 ?_ ?_ rfl
    · refine congrArg (fun x => some (Value.int x)) ?_
      (try clear hin9); (try clear cx); first | exact if_pos (Or.inl cq1) | exact if_pos (Or.inr cq10)
    · rfl
  · skip
    obtain ⟨u, hu, rfl⟩ := nI_of cq1
    have tu : (nI u).toNatClampNeg = u := nI_clamp (by omega)
    refine G.iload_n (pc := 4) cx dX1_tell_4 rfl 2 rfl ?_
    refine G.iconst (pc := 5) cx dX1_tell_5 (v := 0) (by decide) ?_
    refine G.iconst (pc := 6) cx dX1_tell_6 (v := 2) (by decide) ?_
    refine G.callSN0 (pc := 7) (rest := []) (st1 := [.int (b2 (0 ≤ q ∧ q ≤ 2))]) cx (c_X9_within l K sz q 0 2 (bw K b z V)) ok_X9_within dX1_tell_7 (by decide +kernel)  rfl (Nat.le_of_ble_eq_true rfl) ⟨Nat.le_of_ble_eq_true rfl, Nat.le_of_ble_eq_true rfl⟩ rfl ?_
    refine G.if_neB (pc := 10) cx dX1_tell_10 (tgt := 16) (by decide) (fun cq10 => ?_) (fun cq10 => ?_)
    · skip
      refine G.iload_n (pc := 16) cx dX1_tell_16 rfl 1 rfl ?_
      refine G.aload_n (pc := 17) cx dX1_tell_17 rfl 0 rfl ?_
      refine G.getE (pc := 18) cx dX1_tell_18 3 wm_fl_X1_25 (by decide) (congrArg (fun x => some (Value.int x)) (hE)) ?_
      refine G.icmp_ltN (pc := 21) cx u E (by omega) (by omega) dX1_tell_21 (tgt := 27) (by decide) (fun cq21 => ?_) (fun cq21 => ?_)
      · skip
        refine G.iload_n (pc := 27) cx dX1_tell_27 rfl 2 rfl ?_
        refine G.if_ne (pc := 28) cx dX1_tell_28 (tgt := 38) (by decide) (fun cq28 => ?_) (fun cq28 => ?_)
        · skip
          refine G.iload_n (pc := 38) cx dX1_tell_38 rfl 2 rfl ?_
          refine G.iconst (pc := 39) cx dX1_tell_39 (v := 1) (by decide) ?_
          refine G.icmp_ne (pc := 40) cx dX1_tell_40 (tgt := 50) (by decide) (fun cq40 => ?_) (fun cq40 => ?_)
          · skip
            refine G.aload_n (pc := 50) cx dX1_tell_50 rfl 0 rfl ?_
            refine G.getE (pc := 51) cx dX1_tell_51 2 wm_fl_X1_18 (by decide) rfl ?_
            refine G.iload_n (pc := 54) cx dX1_tell_54 rfl 1 rfl ?_
            refine G.callS0 (pc := 55) (rest := []) (st1 := [.int (if u < 8 then z (207 + 3 * u + 2) else -1000004)]) cx (c_X1_numberAt l K sz b z V 2 u (by omega) (by omega)) ok_X1_numberAt dX1_tell_55 wm_ml_X1_39 rfl rfl (Nat.le_of_ble_eq_true rfl) ⟨Nat.le_of_ble_eq_true rfl, Nat.le_of_ble_eq_true rfl⟩ rfl ?_
            refine G.iret (pc := 58) cx rfl dX1_tell_58 ?_ ?_ rfl
            · refine congrArg (fun x => some (Value.int x)) ?_
              (try clear hin9); (try clear cx); refine (if_neg (fun h => h.elim cq1 (fun h => h cq10))).trans ((if_neg (show ¬ z 206 ≤ nI u from (by rw [hE]; exact mt (nI_leI (by omega) (by omega)).mp (by omega)))).trans ?_); rw [tu]; simp [*]
            · rfl
          · skip
            refine G.aload_n (pc := 43) cx dX1_tell_43 rfl 0 rfl ?_
            refine G.getE (pc := 44) cx dX1_tell_44 1 wm_fl_X1_15 (by decide) rfl ?_
            refine G.goto (pc := 47) cx dX1_tell_47 (tgt := 54) (by decide) ?_
            refine G.iload_n (pc := 54) cx dX1_tell_54 rfl 1 rfl ?_
            refine G.callS0 (pc := 55) (rest := []) (st1 := [.int (if u < 8 then z (207 + 3 * u + 1) else -1000004)]) cx (c_X1_numberAt l K sz b z V 1 u (by omega) (by omega)) ok_X1_numberAt dX1_tell_55 wm_ml_X1_39 rfl rfl (Nat.le_of_ble_eq_true rfl) ⟨Nat.le_of_ble_eq_true rfl, Nat.le_of_ble_eq_true rfl⟩ rfl ?_
            refine G.iret (pc := 58) cx rfl dX1_tell_58 ?_ ?_ rfl
            · refine congrArg (fun x => some (Value.int x)) ?_
              (try clear hin9); (try clear cx); refine (if_neg (fun h => h.elim cq1 (fun h => h cq10))).trans ((if_neg (show ¬ z 206 ≤ nI u from (by rw [hE]; exact mt (nI_leI (by omega) (by omega)).mp (by omega)))).trans ?_); rw [tu]; simp [*]
            · rfl
        · skip
          refine G.aload_n (pc := 31) cx dX1_tell_31 rfl 0 rfl ?_
          refine G.getE (pc := 32) cx dX1_tell_32 0 wm_fl_X1_9 (by decide) rfl ?_
          refine G.goto (pc := 35) cx dX1_tell_35 (tgt := 54) (by decide) ?_
          refine G.iload_n (pc := 54) cx dX1_tell_54 rfl 1 rfl ?_
          refine G.callS0 (pc := 55) (rest := []) (st1 := [.int (if u < 8 then z (207 + 3 * u + 0) else -1000004)]) cx (c_X1_numberAt l K sz b z V 0 u (by omega) (by omega)) ok_X1_numberAt dX1_tell_55 wm_ml_X1_39 rfl rfl (Nat.le_of_ble_eq_true rfl) ⟨Nat.le_of_ble_eq_true rfl, Nat.le_of_ble_eq_true rfl⟩ rfl ?_
          refine G.iret (pc := 58) cx rfl dX1_tell_58 ?_ ?_ rfl
          · refine congrArg (fun x => some (Value.int x)) ?_
            (try clear hin9); (try clear cx); refine (if_neg (fun h => h.elim cq1 (fun h => h cq10))).trans ((if_neg (show ¬ z 206 ≤ nI u from (by rw [hE]; exact mt (nI_leI (by omega) (by omega)).mp (by omega)))).trans ?_); rw [tu]; simp [*]
          · rfl
      · skip
        refine G.ldc (pc := 24) cx dX1_tell_24 (v := (-1000004)) wm_ct_X1_38 ?_
        refine G.iret (pc := 26) cx rfl dX1_tell_26 ?_ ?_ rfl
        · refine congrArg (fun x => some (Value.int x)) ?_
          (try clear hin9); (try clear cx); refine (if_neg (fun h => h.elim cq1 (fun h => h cq10))).trans (if_pos ?_); rw [hE]; exact (nI_leI (by omega) (by omega)).mpr cq21
        · rfl
    · skip
      refine G.ldc (pc := 13) cx dX1_tell_13 (v := (-1000001)) wm_ct_X1_37 ?_
      refine G.iret (pc := 15) cx rfl dX1_tell_15 ?_ ?_ rfl
      · refine congrArg (fun x => some (Value.int x)) ?_
        (try clear hin9); (try clear cx); first | exact if_pos (Or.inl cq1) | exact if_pos (Or.inr cq10)
      · rfl
