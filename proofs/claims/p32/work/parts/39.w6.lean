theorem cxG_k (T : Nat → Int32) (L : Nat) (nu z g : Zt) {i : Nat} (h : i < 2) : cxG T L nu z g i = g i := by
  unfold cxG; split
  · exact cTG_k T g h _
  · simp only [cFail]; rw [upd_n _ _ (by omega), upd_n _ _ (by omega), upd_n _ _ (by omega), upd_n _ _ (by omega)]
    exact cTG_k T g h _
set_option maxHeartbeats 4000000 in
set_option maxRecDepth 100000 in
theorem c_X9_count (l : Launch) (K : KT) (sz : Nat) (x : Nat) (z : Zt) (t : Zt) (h : Nat → Zt) (π : Nat → Nat) (f : Zt) (u : Zt) (g : Zt) (V : VW) (q : Int32) (N : Nat) (hN : z 194 = nI N) (h16 : N ≤ 16) : Ct l K yX9_count cX9_count 2 (some .int) 3 [.ref x, .int q] (ww K x z t h π f u g V) sz (some (.int (if q = 17 then g 0 else if q = 18 then g 1 else cTell z N q))) (ww K x z t h π f u g V) sz 0 0 := by
  refine Ct.ofG (by decide) (Nat.le_of_ble_eq_true rfl) ?_
  intro p9 e9 s9 m9 a9 b9 t9 c9 cx hin9
  refine G.lv0 (lv2 := [(0, .ref x), (1, .int q)]) rfl ?_
  refine G.iload_n (pc := 0) cx dX9_count_0 rfl 1 rfl ?_
  refine G.bipush (pc := 1) cx dX9_count_1 (v := 17) (by decide) ?_
  refine G.icmp_ne (pc := 3) cx dX9_count_3 (tgt := 14) (by decide) (fun cq3 => ?_) (fun cq3 => ?_)
  · skip
    refine G.iload_n (pc := 14) cx dX9_count_14 rfl 1 rfl ?_
    refine G.bipush (pc := 15) cx dX9_count_15 (v := 18) (by decide) ?_
    refine G.icmp_ne (pc := 17) cx dX9_count_17 (tgt := 28) (by decide) (fun cq17 => ?_) (fun cq17 => ?_)
    · skip
      refine G.aload_n (pc := 28) cx dX9_count_28 rfl 0 rfl ?_
      refine G.getV (pc := 29) cx dX9_count_29 (T := TX9) 0 wm_fl_X9_10 inlX9 rfl (by decide) ww_x rfl ?_
      refine G.iload_n (pc := 32) cx dX9_count_32 rfl 1 rfl ?_
      refine G.cast (V' := (bw K (x + 1) z (ww K x z t h π f u g V))) (ww_b1 _).symm ?_
      refine G.callV0 (pc := 33) (rest := []) (st1 := [.int (cTell z N q)]) cx (c_X0_tell l K sz (x + 1) z (ww K x z t h π f u g V) q N (by assumption) (by omega)) ok_X0_tell dX9_count_33 wm_ml_X9_143 rfl bw_b rfl rfl (Nat.le_of_ble_eq_true rfl) ⟨Nat.le_of_ble_eq_true rfl, Nat.le_of_ble_eq_true rfl⟩ rfl ?_
      refine G.cast (V' := (ww K x z t h π f u g V)) (ww_b1 _) ?_
      refine G.iret (pc := 36) cx rfl dX9_count_36 ?_ ?_ rfl
      · refine congrArg (fun x => some (Value.int x)) ?_
        (try clear hin9); (try clear cx); (try clear hN); first | (simp [*]; done) | (simp_all; done)
      · rfl
    · skip
      refine G.aload_n (pc := 20) cx dX9_count_20 rfl 0 rfl ?_
      refine G.getV (pc := 21) cx dX9_count_21 (T := TX9) 3 wm_fl_X9_29 inlX9 rfl (by decide) ww_x rfl ?_
      refine G.getV (pc := 24) cx dX9_count_24 (T := TX7) 1 wm_fl_X9_140 inlX7 rfl (by decide) ww_t rfl ?_
      refine G.iret (pc := 27) cx rfl dX9_count_27 ?_ ?_ rfl
      · refine congrArg (fun x => some (Value.int x)) ?_
        (try clear hin9); (try clear cx); (try clear hN); first | (simp [*]; done) | (simp_all; done)
      · rfl
  · skip
    refine G.aload_n (pc := 6) cx dX9_count_6 rfl 0 rfl ?_
    refine G.getV (pc := 7) cx dX9_count_7 (T := TX9) 2 wm_fl_X9_22 inlX9 rfl (by decide) ww_x rfl ?_
    refine G.getV (pc := 10) cx dX9_count_10 (T := TX2) 1 wm_fl_X9_136 inlX2 rfl (by decide) ww_h rfl ?_
    refine G.iret (pc := 13) cx rfl dX9_count_13 ?_ ?_ rfl
    · refine congrArg (fun x => some (Value.int x)) ?_
      (try clear hin9); (try clear cx); (try clear hN); first | (simp [*]; done) | (simp_all; done)
    · rfl
set_option maxHeartbeats 4000000 in
set_option maxRecDepth 100000 in
theorem c_X9_book (l : Launch) (K : KT) (sz : Nat) (x : Nat) (z : Zt) (t : Zt) (h : Nat → Zt) (π : Nat → Nat) (f : Zt) (u : Zt) (g : Zt) (V : VW) (y : Int32) (q : Int32) (E : Nat) (hE : z 206 = nI E) (hE8 : E ≤ 8) : Ct l K yX9_book cX9_book 3 (some .int) 3 [.ref x, .int y, .int q] (ww K x z t h π f u g V) sz (some (.int (cTellE z y q))) (ww K x z t h π f u g V) sz 0 0 := by
  refine Ct.ofG (by decide) (Nat.le_of_ble_eq_true rfl) ?_
  intro p9 e9 s9 m9 a9 b9 t9 c9 cx hin9
  refine G.lv0 (lv2 := [(0, .ref x), (1, .int y), (2, .int q)]) rfl ?_
  refine G.aload_n (pc := 0) cx dX9_book_0 rfl 0 rfl ?_
  refine G.getV (pc := 1) cx dX9_book_1 (T := TX9) 0 wm_fl_X9_10 inlX9 rfl (by decide) ww_x rfl ?_
  refine G.cast (V' := (bw K (x + 1) z (ww K x z t h π f u g V))) (ww_b1 _).symm ?_
  refine G.getB (pc := 4) cx dX9_book_4 3 wm_fl_X9_110 (by decide) rfl ?_
  refine G.cast (V' := (ww K x z t h π f u g V)) (ww_b1 _) ?_
  refine G.iload_n (pc := 7) cx dX9_book_7 rfl 1 rfl ?_
  refine G.iload_n (pc := 8) cx dX9_book_8 rfl 2 rfl ?_
  refine G.cast (V' := (bw K (x + 1) z (ww K x z t h π f u g V))) (ww_b1 _).symm ?_
  refine G.callV0 (pc := 9) (rest := []) (st1 := [.int (cTellE z y q)]) cx (c_X1_tell l K sz (x + 1) z (ww K x z t h π f u g V) y q E (by assumption) (by omega)) ok_X1_tell dX9_book_9 wm_ml_X9_114 rfl bw_e rfl rfl (Nat.le_of_ble_eq_true rfl) ⟨Nat.le_of_ble_eq_true rfl, Nat.le_of_ble_eq_true rfl⟩ rfl ?_
  refine G.cast (V' := (ww K x z t h π f u g V)) (ww_b1 _) ?_
  refine G.iret (pc := 12) cx rfl dX9_book_12 ?_ ?_ rfl
  · rfl
  · rfl
