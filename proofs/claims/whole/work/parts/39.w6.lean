theorem cxG_k (T : Nat → Int32) (L : Nat) (nu z g : Zt) {i : Nat} (h : i < 2) : cxG T L nu z g i = g i := by
  unfold cxG; split
  · exact cTG_k T g h _
  · simp only [cFail]; rw [upd_n _ _ (by omega), upd_n _ _ (by omega), upd_n _ _ (by omega), upd_n _ _ (by omega)]
    exact cTG_k T g h _
set_option maxHeartbeats 4000000 in
set_option maxRecDepth 100000 in
theorem c_X9_count (l : Launch) (K : KT) (sz : Nat) (x : Nat) (z : Zt) (t : Zt) (h : Nat → Zt) (π : Nat → Nat) (f : Zt) (u : Zt) (g : Zt) (V : VW) (q : Int32) (N : Nat) (hN : z 194 = nI N) (h16 : N ≤ 16) : Ct l K yX9_count cX9_count 2 (some .int) 3 [.ref x, .int q] (ww K x z t h π f u g V) sz (some (.int (if q = 17 then g 0 else if q = 18 then g 1 else cTell z N q))) (ww K x z t h π f u g V) sz 0 0 := by
  refine Ct.ofG (by decide) (Nat.le_of_ble_eq_true rfl) ?_
  intro p9 e9 s9 m9 a9 b9 t9 c9 cx hin9
  refine G.lv0 (lv2 := [(0, .ref x), (1, .int q)]) rfl ?_
  refine G.iload_n (pc := 0) cx dX9_count_0 rfl 1 rfl ?_
  refine G.bipush (pc := 1) cx dX9_count_1 (v := 17) (by decide) ?_
  refine G.icmp_ne (pc := 3) cx dX9_count_3 (tgt := 14) (by decide) (fun cq3 => ?_) (fun cq3 => ?_)
  · skip
    refine G.iload_n (pc := 14) cx dX9_count_14 rfl 1 rfl ?_
    refine G.bipush (pc := 15) cx dX9_count_15 (v := 18) (by decide) ?_
    refine G.icmp_ne (pc := 17) cx dX9_count_17 (tgt := 28) (by decide) (fun cq17 => ?_) (fun cq17 => ?_)
    · skip
      refine G.aload_n (pc := 28) cx dX9_count_28 rfl 0 rfl ?_
      refine G.getV (pc := 29) cx dX9_count_29 (T := TX9) 0 wm_fl_X9_10 inlX9 rfl (by decide) ww_x rfl ?_
      refine G.iload_n (pc := 32) cx dX9_count_32 rfl 1 rfl ?_
      refine G.cast (V' := (bw K (x + 1) z (ww K x z t h π f u g V))) (ww_b1 _).symm ?_
      refine G.callV0 (pc := 33) (rest := []) (st1 := [.int (cTell z N q)]) cx (c_X0_tell l K sz (x + 1) z (ww K x z t h π f u g V) q N (by assumption) (by omega)) ok_X0_tell dX9_count_33 wm_ml_X9_143 rfl bw_b rfl rfl (Nat.le_of_ble_eq_true rfl) ⟨Nat.le_of_ble_eq_true rfl, Nat.le_of_ble_eq_true rfl⟩ rfl ?_
      refine G.cast (V' := (ww K x z t h π f u g V)) (ww_b1 _) ?_
      refine G.iret (pc := 36) cx rfl dX9_count_36 ?_ ?_ rfl
      · refine congrArg (fun x => some (Value.int x)) ?_
        (try clear hin9); (try clear cx); (try clear hN); first | (simp [*]; done) | (simp_all; done)
      · rfl
    · skip
      refine G.aload_n (pc := 20) cx dX9_count_20 rfl 0 rfl ?_
      refine G.getV (pc := 21) cx dX9_count_21 (T := TX9) 3 wm_fl_X9_29 inlX9 rfl (by decide) ww_x rfl ?_
      refine G.getV (pc := 24) cx dX9_count_24 (T := TX7) 1 wm_fl_X9_140 inlX7 rfl (by decide) ww_t rfl ?_
      refine G.iret (pc := 27) cx rfl dX9_count_27 ?_ ?_ rfl
      · refine congrArg (fun x => some (Value.int x)) ?_
        (try clear hin9); (try clear cx); (try clear hN); first | (simp [*]; done) | (simp_all; done)
      · rfl
  · skip
    refine G.aload_n (pc := 6) cx dX9_count_6 rfl 0 rfl ?_
    refine G.getV (pc := 7) cx dX9_count_7 (T := TX9) 2 wm_fl_X9_22 inlX9 rfl (by decide) ww_x rfl ?_
    refine G.getV (pc := 10) cx dX9_count_10 (T := TX2) 1 wm_fl_X9_136 inlX2 rfl (by decide) ww_h rfl ?_
    refine G.iret (pc := 13) cx rfl dX9_count_13 ?_ ?_ rfl
    · refine congrArg (fun x => some (Value.int x)) ?_
      (try clear hin9); (try clear cx); (try clear hN); first | (simp [*]; done) | (simp_all; done)
    · rfl
set_option maxHeartbeats 4000000 in
set_option maxRecDepth 100000 in
theorem c_X9_fault (l : Launch) (K : KT) (sz : Nat) (x : Nat) (z : Zt) (t : Zt) (h : Nat → Zt) (π : Nat → Nat) (f : Zt) (u : Zt) (g : Zt) (V : VW) (q : Int32) (n : Nat) (hL : g 1 = nI n) (hn : n ≤ 60) (hz : z 191 = 0 ∨ z 191 = 1) (hZ : ∀ k, k ≤ cxK (cAt f n) n u z 60 0 → ∃ N1, N1 ≤ 16 ∧ cTz (cAt f n) u z k 194 = nI N1) : Ct l K yX9_fault cX9_fault 2 (some .int) 8 [.ref x, .int q] (ww K x z t h π f u g V) sz (some (.int (if ¬ (0 ≤ q ∧ q ≤ 2) then -1000001 else cTellF (cxG (cAt f n) n u z g) q))) (ww K x z (if ¬ (0 ≤ q ∧ q ≤ 2) then t else cxZ (cAt f n) n u z) h π f (if ¬ (0 ≤ q ∧ q ≤ 2) then u else cxN (cAt f n) n u z) (if ¬ (0 ≤ q ∧ q ≤ 2) then g else cxG (cAt f n) n u z g) V) sz 0 0 := by
  refine Ct.ofG (by decide) (Nat.le_of_ble_eq_true rfl) ?_
  intro p9 e9 s9 m9 a9 b9 t9 c9 cx hin9
  refine G.lv0 (lv2 := [(0, .ref x), (1, .int q)]) rfl ?_
  refine G.iload_n (pc := 0) cx dX9_fault_0 rfl 1 rfl ?_
  refine G.iconst (pc := 1) cx dX9_fault_1 (v := 0) (by decide) ?_
  refine G.iconst (pc := 2) cx dX9_fault_2 (v := 2) (by decide) ?_
  refine G.callS0 (pc := 3) (rest := []) (st1 := [.int (b2 (0 ≤ q ∧ q ≤ 2))]) cx (c_X9_within l K sz q 0 2 (ww K x z t h π f u g V)) ok_X9_within dX9_fault_3 wm_ml_X9_154 rfl rfl (Nat.le_of_ble_eq_true rfl) ⟨Nat.le_of_ble_eq_true rfl, Nat.le_of_ble_eq_true rfl⟩ rfl ?_
  refine G.if_neB (pc := 6) cx dX9_fault_6 (tgt := 12) (by decide) (fun cq6 => ?_) (fun cq6 => ?_)
  · skip
    refine G.aload_n (pc := 12) cx dX9_fault_12 rfl 0 rfl ?_
    refine G.getV (pc := 13) cx dX9_fault_13 (T := TX9) 4 wm_fl_X9_36 inlX9 rfl (by decide) ww_x rfl ?_
    refine G.aload_n (pc := 16) cx dX9_fault_16 rfl 0 rfl ?_
    refine G.getV (pc := 17) cx dX9_fault_17 (T := TX9) 3 wm_fl_X9_29 inlX9 rfl (by decide) ww_x rfl ?_
    refine G.aload_n (pc := 20) cx dX9_fault_20 rfl 0 rfl ?_
    refine G.callV0 (pc := 21) (rest := [.ref (x + 189), .ref (x + 191)]) (st1 := [.ref (x + 32), .ref (x + 189), .ref (x + 191)]) cx (c_X9_newTrial l K sz x z t h π f u g V (by assumption)) ok_X9_newTrial dX9_fault_21 wm_ml_X9_40 rfl ww_x rfl rfl (Nat.le_of_ble_eq_true rfl) ⟨Nat.le_of_ble_eq_true rfl, Nat.le_of_ble_eq_true rfl⟩ rfl ?_
    refine G.callV0 (pc := 24) (rest := []) (st1 := []) cx (c_X5_runThrough l K sz x z z h π f u g V n (by first | assumption | exact hL) (by omega) (by assumption)) ok_X5_runThrough dX9_fault_24 wm_ml_X9_158 rfl ww_r rfl rfl (Nat.le_of_ble_eq_true rfl) ⟨Nat.le_of_ble_eq_true rfl, Nat.le_of_ble_eq_true rfl⟩ rfl ?_
    refine G.aload_n (pc := 27) cx dX9_fault_27 rfl 0 rfl ?_
    refine G.getV (pc := 28) cx dX9_fault_28 (T := TX9) 4 wm_fl_X9_36 inlX9 rfl (by decide) ww_x rfl ?_
    refine G.iload_n (pc := 31) cx dX9_fault_31 rfl 1 rfl ?_
    refine G.callV0 (pc := 32) (rest := []) (st1 := [.int (cTellF (cxG (cAt f n) n u z g) q)]) cx (c_X5_tellFault l K sz x z (cxZ (cAt f n) n u z) h π f (cxN (cAt f n) n u z) (cxG (cAt f n) n u z g) V q) ok_X5_tellFault dX9_fault_32 wm_ml_X9_162 rfl ww_r rfl rfl (Nat.le_of_ble_eq_true rfl) ⟨Nat.le_of_ble_eq_true rfl, Nat.le_of_ble_eq_true rfl⟩ rfl ?_
    refine G.iret (pc := 35) cx rfl dX9_fault_35 ?_ ?_ rfl
    · refine congrArg (fun x => some (Value.int x)) ?_
      (try clear hin9); (try clear cx); exact if_neg (fun q9 => q9 cq6)
    · show _ = _
      (try clear hin9); (try clear cx); rw [if_neg (fun q9 => q9 cq6), if_neg (fun q9 => q9 cq6), if_neg (fun q9 => q9 cq6)]
  · skip
    refine G.ldc (pc := 9) cx dX9_fault_9 (v := (-1000001)) wm_ct_X9_97 ?_
    refine G.iret (pc := 11) cx rfl dX9_fault_11 ?_ ?_ rfl
    · refine congrArg (fun x => some (Value.int x)) ?_
      (try clear hin9); (try clear cx); exact if_pos cq6
    · show _ = _
      (try clear hin9); (try clear cx); rw [if_pos cq6, if_pos cq6, if_pos cq6]
set_option maxHeartbeats 4000000 in
set_option maxRecDepth 100000 in
theorem c_X9_play (l : Launch) (K : KT) (sz : Nat) (x : Nat) (z : Zt) (t : Zt) (h : Nat → Zt) (π : Nat → Nat) (f : Zt) (u : Zt) (g : Zt) (V : VW) (n : Nat) (mm : Nat) (hL : g 1 = nI n) (hn : n ≤ 60) (hm : g 0 = nI mm) (hm4 : mm ≤ 4) (hπ : ∀ k, k < 4 → π k < 4) (hz : z 191 = 0 ∨ z 191 = 1) (hZ : ∀ k, k ≤ cxK (cAt f n) n u z 60 0 → ∃ N1, N1 ≤ 16 ∧ cTz (cAt f n) u z k 194 = nI N1) (hzt : (cxZ (cAt f n) n u z) 191 = 0 ∨ (cxZ (cAt f n) n u z) 191 = 1) : Ct l K yX9_play cX9_play 1 (some .int) 8 [.ref x] (ww K x z t h π f u g V) sz (some (.int (if (cxG (cAt f n) n u z g) 4 = 0 then (cxG (cAt f n) n u z g) 2 else -1000002))) (ww K x (sZ (if (cxG (cAt f n) n u z g) 4 = 0 then (cxG (cAt f n) n u z g) 2 else -1000002) z (cxZ (cAt f n) n u z)) (cxZ (cAt f n) n u z) (sH (if (cxG (cAt f n) n u z g) 4 = 0 then (cxG (cAt f n) n u z g) 2 else -1000002) h π z) (sP (if (cxG (cAt f n) n u z g) 4 = 0 then (cxG (cAt f n) n u z g) 2 else -1000002) π) f (cxN (cAt f n) n u z) (sG (if (cxG (cAt f n) n u z g) 4 = 0 then (cxG (cAt f n) n u z g) 2 else -1000002) mm (cxG (cAt f n) n u z g)) V) sz 0 0 := by
  refine Ct.ofG (by decide) (Nat.le_of_ble_eq_true rfl) ?_
  intro p9 e9 s9 m9 a9 b9 t9 c9 cx hin9
  refine G.lv0 (lv2 := [(0, .ref x)]) rfl ?_
  refine G.aload_n (pc := 0) cx dX9_play_0 rfl 0 rfl ?_
  refine G.getV (pc := 1) cx dX9_play_1 (T := TX9) 4 wm_fl_X9_36 inlX9 rfl (by decide) ww_x rfl ?_
  refine G.aload_n (pc := 4) cx dX9_play_4 rfl 0 rfl ?_
  refine G.getV (pc := 5) cx dX9_play_5 (T := TX9) 3 wm_fl_X9_29 inlX9 rfl (by decide) ww_x rfl ?_
  refine G.aload_n (pc := 8) cx dX9_play_8 rfl 0 rfl ?_
  refine G.callV0 (pc := 9) (rest := [.ref (x + 189), .ref (x + 191)]) (st1 := [.ref (x + 32), .ref (x + 189), .ref (x + 191)]) cx (c_X9_newTrial l K sz x z t h π f u g V (by assumption)) ok_X9_newTrial dX9_play_9 wm_ml_X9_40 rfl ww_x rfl rfl (Nat.le_of_ble_eq_true rfl) ⟨Nat.le_of_ble_eq_true rfl, Nat.le_of_ble_eq_true rfl⟩ rfl ?_
  refine G.callV0 (pc := 12) (rest := []) (st1 := []) cx (c_X5_runThrough l K sz x z z h π f u g V n (by first | assumption | exact hL) (by omega) (by assumption)) ok_X5_runThrough dX9_play_12 wm_ml_X9_158 rfl ww_r rfl rfl (Nat.le_of_ble_eq_true rfl) ⟨Nat.le_of_ble_eq_true rfl, Nat.le_of_ble_eq_true rfl⟩ rfl ?_
  refine G.aload_n (pc := 15) cx dX9_play_15 rfl 0 rfl ?_
  refine G.aload_n (pc := 16) cx dX9_play_16 rfl 0 rfl ?_
  refine G.getV (pc := 17) cx dX9_play_17 (T := TX9) 4 wm_fl_X9_36 inlX9 rfl (by decide) ww_x rfl ?_
  refine G.callV0 (pc := 20) (rest := [.ref x]) (st1 := [.int (b2 (¬ (cxG (cAt f n) n u z g) 4 = 0)), .ref x]) cx (c_X5_isFaulty l K sz x z (cxZ (cAt f n) n u z) h π f (cxN (cAt f n) n u z) (cxG (cAt f n) n u z g) V) ok_X5_isFaulty dX9_play_20 wm_ml_X9_165 rfl ww_r rfl rfl (Nat.le_of_ble_eq_true rfl) ⟨Nat.le_of_ble_eq_true rfl, Nat.le_of_ble_eq_true rfl⟩ rfl ?_
  have J38_1 : G K p9 l e9 (rmL 8 0 0) s9 m9 a9 b9 t9 c9 (MQ b9 (QCt K (some (.int (if (cxG (cAt f n) n u z g) 4 = 0 then (cxG (cAt f n) n u z g) 2 else -1000002))) (ww K x (sZ (if (cxG (cAt f n) n u z g) 4 = 0 then (cxG (cAt f n) n u z g) 2 else -1000002) z (cxZ (cAt f n) n u z)) (cxZ (cAt f n) n u z) (sH (if (cxG (cAt f n) n u z g) 4 = 0 then (cxG (cAt f n) n u z g) 2 else -1000002) h π z) (sP (if (cxG (cAt f n) n u z g) 4 = 0 then (cxG (cAt f n) n u z g) 2 else -1000002) π) f (cxN (cAt f n) n u z) (sG (if (cxG (cAt f n) n u z g) 4 = 0 then (cxG (cAt f n) n u z g) 2 else -1000002) mm (cxG (cAt f n) n u z g)) V) sz) a9 s9 0 0 (kA K)) 1 (ww K x z (cxZ (cAt f n) n u z) h π f (cxN (cAt f n) n u z) (cxG (cAt f n) n u z g) V) sz 0 0 38 [(0, .ref x)] [.int (if (cxG (cAt f n) n u z g) 4 = 0 then (cxG (cAt f n) n u z g) 2 else -1000002), .ref x] := by
    refine G.callV0 (pc := 38) (rest := []) (st1 := [.int (if (cxG (cAt f n) n u z g) 4 = 0 then (cxG (cAt f n) n u z g) 2 else -1000002)]) cx (c_X9_settleTrial l K sz x z (cxZ (cAt f n) n u z) h π f (cxN (cAt f n) n u z) (cxG (cAt f n) n u z g) V (if (cxG (cAt f n) n u z g) 4 = 0 then (cxG (cAt f n) n u z g) 2 else -1000002) mm (by exact (cxG_k _ _ _ _ _ (by omega)).trans hm) (by omega) (by assumption) (by assumption) (by assumption)) ok_X9_settleTrial dX9_play_38 wm_ml_X9_48 rfl ww_x rfl rfl (Nat.le_of_ble_eq_true rfl) ⟨Nat.le_of_ble_eq_true rfl, Nat.le_of_ble_eq_true rfl⟩ rfl ?_
    refine G.iret (pc := 41) cx rfl dX9_play_41 ?_ ?_ rfl
    · rfl
    · rfl
  refine G.if_eqB (pc := 23) cx dX9_play_23 (tgt := 31) (by decide) (fun cq23 => ?_) (fun cq23 => ?_)
  · skip
    refine G.aload_n (pc := 31) cx dX9_play_31 rfl 0 rfl ?_
    refine G.getV (pc := 32) cx dX9_play_32 (T := TX9) 4 wm_fl_X9_36 inlX9 rfl (by decide) ww_x rfl ?_
    refine G.getV (pc := 35) cx dX9_play_35 (T := TX5) 1 wm_fl_X9_170 inlX5 rfl (by decide) ww_r rfl ?_
    refine G.castS (st' := [.int (if (cxG (cAt f n) n u z g) 4 = 0 then (cxG (cAt f n) n u z g) 2 else -1000002), .ref x]) (congrArg (fun q9 => ([.int q9, .ref x] : List Value)) (show ((cxG (cAt f n) n u z g) 2 : Int32) = if (cxG (cAt f n) n u z g) 4 = 0 then (cxG (cAt f n) n u z g) 2 else -1000002 from by first | exact (if_pos (Decidable.not_not.mp cq23)).symm | exact (if_neg cq23).symm | exact (if_pos cq23).symm)) ?_
    exact J38_1
  · skip
    refine G.ldc (pc := 26) cx dX9_play_26 (v := (-1000002)) wm_ct_X9_169 ?_
    refine G.goto (pc := 28) cx dX9_play_28 (tgt := 38) (by decide) ?_
    refine G.castS (st' := [.int (if (cxG (cAt f n) n u z g) 4 = 0 then (cxG (cAt f n) n u z g) 2 else -1000002), .ref x]) (congrArg (fun q9 => ([.int q9, .ref x] : List Value)) (show ((-1000002) : Int32) = if (cxG (cAt f n) n u z g) 4 = 0 then (cxG (cAt f n) n u z g) 2 else -1000002 from by first | exact (if_pos (Decidable.not_not.mp cq23)).symm | exact (if_neg cq23).symm | exact (if_pos cq23).symm)) ?_
    exact J38_1
set_option maxHeartbeats 4000000 in
set_option maxRecDepth 100000 in
theorem c_X9_book (l : Launch) (K : KT) (sz : Nat) (x : Nat) (z : Zt) (t : Zt) (h : Nat → Zt) (π : Nat → Nat) (f : Zt) (u : Zt) (g : Zt) (V : VW) (y : Int32) (q : Int32) (E : Nat) (hE : z 206 = nI E) (hE8 : E ≤ 8) : Ct l K yX9_book cX9_book 3 (some .int) 3 [.ref x, .int y, .int q] (ww K x z t h π f u g V) sz (some (.int (cTellE z y q))) (ww K x z t h π f u g V) sz 0 0 := by
  refine Ct.ofG (by decide) (Nat.le_of_ble_eq_true rfl) ?_
  intro p9 e9 s9 m9 a9 b9 t9 c9 cx hin9
  refine G.lv0 (lv2 := [(0, .ref x), (1, .int y), (2, .int q)]) rfl ?_
  refine G.aload_n (pc := 0) cx dX9_book_0 rfl 0 rfl ?_
  refine G.getV (pc := 1) cx dX9_book_1 (T := TX9) 0 wm_fl_X9_10 inlX9 rfl (by decide) ww_x rfl ?_
  refine G.cast (V' := (bw K (x + 1) z (ww K x z t h π f u g V))) (ww_b1 _).symm ?_
  refine G.getB (pc := 4) cx dX9_book_4 3 wm_fl_X9_110 (by decide) rfl ?_
  refine G.cast (V' := (ww K x z t h π f u g V)) (ww_b1 _) ?_
  refine G.iload_n (pc := 7) cx dX9_book_7 rfl 1 rfl ?_
  refine G.iload_n (pc := 8) cx dX9_book_8 rfl 2 rfl ?_
  refine G.cast (V' := (bw K (x + 1) z (ww K x z t h π f u g V))) (ww_b1 _).symm ?_
  refine G.callV0 (pc := 9) (rest := []) (st1 := [.int (cTellE z y q)]) cx (c_X1_tell l K sz (x + 1) z (ww K x z t h π f u g V) y q E (by assumption) (by omega)) ok_X1_tell dX9_book_9 wm_ml_X9_114 rfl bw_e rfl rfl (Nat.le_of_ble_eq_true rfl) ⟨Nat.le_of_ble_eq_true rfl, Nat.le_of_ble_eq_true rfl⟩ rfl ?_
  refine G.cast (V' := (ww K x z t h π f u g V)) (ww_b1 _) ?_
  refine G.iret (pc := 12) cx rfl dX9_book_12 ?_ ?_ rfl
  · rfl
  · rfl
