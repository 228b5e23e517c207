def sZ (y : Int32) (z t : Zt) : Zt := if 0 ≤ y then t else z
def sH (y : Int32) (h : Nat → Zt) (π : Nat → Nat) (z : Zt) : Nat → Zt := if 0 ≤ y then hset h (π 3) z else h
def sP (y : Int32) (π : Nat → Nat) : Nat → Nat := if 0 ≤ y then rotR π else π
def sG (y : Int32) (m : Nat) (g : Zt) : Zt := if 0 ≤ y ∧ m < 4 then upd g 0 (nI (m + 1)) else g
set_option maxHeartbeats 4000000 in
set_option maxRecDepth 100000 in
theorem c_X9_newTrial (l : Launch) (K : KT) (sz : Nat) (x : Nat) (z : Zt) (t : Zt) (h : Nat → Zt) (π : Nat → Nat) (f : Zt) (u : Zt) (g : Zt) (V : VW) (hz : z 191 = 0 ∨ z 191 = 1) : Ct l K yX9_newTrial cX9_newTrial 1 (some (.object "PurserLedgers$Books")) 3 [.ref x] (ww K x z t h π f u g V) sz (some (.ref (x + 32))) (ww K x z z h π f u g V) sz 0 0 := by
  refine Ct.ofG (by decide) (Nat.le_of_ble_eq_true rfl) ?_
  intro p9 e9 s9 m9 a9 b9 t9 c9 cx hin9
  refine G.lv0 (lv2 := [(0, .ref x)]) rfl ?_
  refine G.aload_n (pc := 0) cx dX9_newTrial_0 rfl 0 rfl ?_
  refine G.getV (pc := 1) cx dX9_newTrial_1 (T := TX9) 1 wm_fl_X9_16 inlX9 rfl (by decide) ww_x rfl ?_
  refine G.aload_n (pc := 4) cx dX9_newTrial_4 rfl 0 rfl ?_
  refine G.getV (pc := 5) cx dX9_newTrial_5 (T := TX9) 0 wm_fl_X9_10 inlX9 rfl (by decide) ww_x rfl ?_
  refine G.cast (V' := (bw K (x + 32) t (ww K x z t h π f u g V))) (ww_b2 _).symm ?_
  refine G.callV0 (pc := 8) (rest := []) (st1 := []) cx (c_X0_copyFrom l K sz (x + 32) t (ww K x z t h π f u g V) (x + 1) z (by first | exact hA | (unfold apt; omega)) (by first | exact hO | exact ww_b1 _ | exact ww_b2 _ | exact ww_bh_self (by assumption)) (by exact hz)) ok_X0_copyFrom dX9_newTrial_8 wm_ml_X9_173 rfl bw_b rfl rfl (Nat.le_of_ble_eq_true rfl) ⟨Nat.le_of_ble_eq_true rfl, Nat.le_of_ble_eq_true rfl⟩ rfl ?_
  refine G.cast (V' := (ww K x z z h π f u g V)) (ww_b2 _) ?_
  refine G.aload_n (pc := 11) cx dX9_newTrial_11 rfl 0 rfl ?_
  refine G.getV (pc := 12) cx dX9_newTrial_12 (T := TX9) 1 wm_fl_X9_16 inlX9 rfl (by decide) ww_x rfl ?_
  refine G.aretq (pc := 15) cx rfl (Or.inl ⟨_, rfl⟩) (Or.inr ⟨_, rfl⟩) dX9_newTrial_15 ?_ ?_ rfl
  · rfl
  · rfl
set_option maxHeartbeats 4000000 in
set_option maxRecDepth 100000 in
theorem c_X9_settleTrial (l : Launch) (K : KT) (sz : Nat) (x : Nat) (z : Zt) (t : Zt) (h : Nat → Zt) (π : Nat → Nat) (f : Zt) (u : Zt) (g : Zt) (V : VW) (y : Int32) (mm : Nat) (hm : g 0 = nI mm) (hm4 : mm ≤ 4) (hπ : ∀ k, k < 4 → π k < 4) (hz : z 191 = 0 ∨ z 191 = 1) (hzt : t 191 = 0 ∨ t 191 = 1) : Ct l K yX9_settleTrial cX9_settleTrial 2 (some .int) 4 [.ref x, .int y] (ww K x z t h π f u g V) sz (some (.int y)) (ww K x (sZ y z t) t (sH y h π z) (sP y π) f u (sG y mm g) V) sz 0 0 := by
  refine Ct.ofG (by decide) (Nat.le_of_ble_eq_true rfl) ?_
  intro p9 e9 s9 m9 a9 b9 t9 c9 cx hin9
  refine G.lv0 (lv2 := [(0, .ref x), (1, .int y)]) rfl ?_
  refine G.iload_n (pc := 0) cx dX9_settleTrial_0 rfl 1 rfl ?_
  refine G.if_lt (pc := 1) cx dX9_settleTrial_1 (tgt := 26) (by decide) (fun cq1 => ?_) (fun cq1 => ?_)
  · skip
    refine G.iload_n (pc := 26) cx dX9_settleTrial_26 rfl 1 rfl ?_
    refine G.iret (pc := 27) cx rfl dX9_settleTrial_27 ?_ ?_ rfl
    · rfl
    · show _ = _
      (try clear hin9); (try clear cx); first | (have h9 : ¬ 0 ≤ y := Int32.not_le.mpr cq1; simp only [sZ, sH, sP, sG]; rw [if_neg h9, if_neg h9, if_neg h9, if_neg (fun q9 => h9 q9.1)]; done) | (have h9 : 0 ≤ y := Int32.not_lt.mp cq1; simp only [sZ, sH, sP, sG]; rw [if_pos h9, if_pos h9, if_pos h9]; by_cases h8 : mm < 4; (rw [if_pos h8, if_pos ⟨h9, h8⟩]); (rw [if_neg h8, if_neg (fun q9 => h8 q9.2)]))
  · skip
    refine G.aload_n (pc := 4) cx dX9_settleTrial_4 rfl 0 rfl ?_
    refine G.getV (pc := 5) cx dX9_settleTrial_5 (T := TX9) 2 wm_fl_X9_22 inlX9 rfl (by decide) ww_x rfl ?_
    refine G.aload_n (pc := 8) cx dX9_settleTrial_8 rfl 0 rfl ?_
    refine G.getV (pc := 9) cx dX9_settleTrial_9 (T := TX9) 0 wm_fl_X9_10 inlX9 rfl (by decide) ww_x rfl ?_
    refine G.callV0 (pc := 12) (rest := []) (st1 := []) cx (c_X2_record l K sz x z t h π f u g V mm (by assumption) (by omega) (by assumption) (by assumption)) ok_X2_record dX9_settleTrial_12 wm_ml_X9_177 rfl ww_h rfl rfl (Nat.le_of_ble_eq_true rfl) ⟨Nat.le_of_ble_eq_true rfl, Nat.le_of_ble_eq_true rfl⟩ rfl ?_
    refine G.aload_n (pc := 15) cx dX9_settleTrial_15 rfl 0 rfl ?_
    refine G.getV (pc := 16) cx dX9_settleTrial_16 (T := TX9) 0 wm_fl_X9_10 inlX9 rfl (by decide) ww_x rfl ?_
    refine G.aload_n (pc := 19) cx dX9_settleTrial_19 rfl 0 rfl ?_
    refine G.getV (pc := 20) cx dX9_settleTrial_20 (T := TX9) 1 wm_fl_X9_16 inlX9 rfl (by decide) ww_x rfl ?_
    refine G.cast (V' := (bw K (x + 1) z (ww K x z t (hset h (π 3) z) (rotR π) f u (if mm < 4 then upd g 0 (nI (mm + 1)) else g) V))) (ww_b1 _).symm ?_
    refine G.callV0 (pc := 23) (rest := []) (st1 := []) cx (c_X0_copyFrom l K sz (x + 1) z (ww K x z t (hset h (π 3) z) (rotR π) f u (if mm < 4 then upd g 0 (nI (mm + 1)) else g) V) (x + 32) t (by first | exact hA | (unfold apt; omega)) (by first | exact hO | exact ww_b1 _ | exact ww_b2 _ | exact ww_bh_self (by assumption)) (by exact hzt)) ok_X0_copyFrom dX9_settleTrial_23 wm_ml_X9_173 rfl bw_b rfl rfl (Nat.le_of_ble_eq_true rfl) ⟨Nat.le_of_ble_eq_true rfl, Nat.le_of_ble_eq_true rfl⟩ rfl ?_
    refine G.cast (V' := (ww K x t t (hset h (π 3) z) (rotR π) f u (if mm < 4 then upd g 0 (nI (mm + 1)) else g) V)) (ww_b1 _) ?_
    refine G.iload_n (pc := 26) cx dX9_settleTrial_26 rfl 1 rfl ?_
    refine G.iret (pc := 27) cx rfl dX9_settleTrial_27 ?_ ?_ rfl
    · rfl
    · show _ = _
      (try clear hin9); (try clear cx); first | (have h9 : ¬ 0 ≤ y := Int32.not_le.mpr cq1; simp only [sZ, sH, sP, sG]; rw [if_neg h9, if_neg h9, if_neg h9, if_neg (fun q9 => h9 q9.1)]; done) | (have h9 : 0 ≤ y := Int32.not_lt.mp cq1; simp only [sZ, sH, sP, sG]; rw [if_pos h9, if_pos h9, if_pos h9]; by_cases h8 : mm < 4; (rw [if_pos h8, if_pos ⟨h9, h8⟩]); (rw [if_neg h8, if_neg (fun q9 => h8 q9.2)]))
set_option maxHeartbeats 4000000 in
set_option maxRecDepth 100000 in
theorem c_X9_sign (l : Launch) (K : KT) (sz : Nat) (x : Nat) (z : Zt) (t : Zt) (h : Nat → Zt) (π : Nat → Nat) (f : Zt) (u : Zt) (g : Zt) (V : VW) (q : Int32) (w : Int32) (mm : Nat) (N : Nat) (hm : g 0 = nI mm) (hm4 : mm ≤ 4) (hπ : ∀ k, k < 4 → π k < 4) (hz : z 191 = 0 ∨ z 191 = 1) (hN : z 194 = nI N) (h16 : N ≤ 16) (hzt : (if cNoSign z N q w < 0 then z else cDoSign z N q w) 191 = 0 ∨ (if cNoSign z N q w < 0 then z else cDoSign z N q w) 191 = 1) : Ct l K yX9_sign cX9_sign 3 (some .int) 5 [.ref x, .int q, .int w] (ww K x z t h π f u g V) sz (some (.int (if cNoSign z N q w < 0 then cNoSign z N q w else nI N))) (ww K x (sZ (if cNoSign z N q w < 0 then cNoSign z N q w else nI N) z (if cNoSign z N q w < 0 then z else cDoSign z N q w)) (if cNoSign z N q w < 0 then z else cDoSign z N q w) (sH (if cNoSign z N q w < 0 then cNoSign z N q w else nI N) h π z) (sP (if cNoSign z N q w < 0 then cNoSign z N q w else nI N) π) f u (sG (if cNoSign z N q w < 0 then cNoSign z N q w else nI N) mm g) V) sz 0 0 := by
  refine Ct.ofG (by decide) (Nat.le_of_ble_eq_true rfl) ?_
  intro p9 e9 s9 m9 a9 b9 t9 c9 cx hin9
  refine G.lv0 (lv2 := [(0, .ref x), (1, .int q), (2, .int w)]) rfl ?_
  refine G.aload_n (pc := 0) cx dX9_sign_0 rfl 0 rfl ?_
  refine G.aload_n (pc := 1) cx dX9_sign_1 rfl 0 rfl ?_
  refine G.callV0 (pc := 2) (rest := [.ref x]) (st1 := [.ref (x + 32), .ref x]) cx (c_X9_newTrial l K sz x z t h π f u g V (by assumption)) ok_X9_newTrial dX9_sign_2 wm_ml_X9_40 rfl ww_x rfl rfl (Nat.le_of_ble_eq_true rfl) ⟨Nat.le_of_ble_eq_true rfl, Nat.le_of_ble_eq_true rfl⟩ rfl ?_
  refine G.iload_n (pc := 5) cx dX9_sign_5 rfl 1 rfl ?_
  refine G.iload_n (pc := 6) cx dX9_sign_6 rfl 2 rfl ?_
  refine G.cast (V' := (bw K (x + 32) z (ww K x z z h π f u g V))) (ww_b2 _).symm ?_
  refine G.callV0 (pc := 7) (rest := [.ref x]) (st1 := [.int (if cNoSign z N q w < 0 then cNoSign z N q w else nI N), .ref x]) cx (c_X0_signOn l K sz (x + 32) z (ww K x z z h π f u g V) q w N (by assumption) (by omega)) ok_X0_signOn dX9_sign_7 wm_ml_X9_44 rfl bw_b rfl rfl (Nat.le_of_ble_eq_true rfl) ⟨Nat.le_of_ble_eq_true rfl, Nat.le_of_ble_eq_true rfl⟩ rfl ?_
  refine G.cast (V' := (ww K x z (if cNoSign z N q w < 0 then z else cDoSign z N q w) h π f u g V)) (ww_b2 _) ?_
  refine G.callV0 (pc := 10) (rest := []) (st1 := [.int (if cNoSign z N q w < 0 then cNoSign z N q w else nI N)]) cx (c_X9_settleTrial l K sz x z (if cNoSign z N q w < 0 then z else cDoSign z N q w) h π f u g V (if cNoSign z N q w < 0 then cNoSign z N q w else nI N) mm (by assumption) (by omega) (by assumption) (by assumption) (by assumption)) ok_X9_settleTrial dX9_sign_10 wm_ml_X9_48 rfl ww_x rfl rfl (Nat.le_of_ble_eq_true rfl) ⟨Nat.le_of_ble_eq_true rfl, Nat.le_of_ble_eq_true rfl⟩ rfl ?_
  refine G.iret (pc := 13) cx rfl dX9_sign_13 ?_ ?_ rfl
  · rfl
  · rfl
set_option maxHeartbeats 4000000 in
set_option maxRecDepth 100000 in
theorem c_X9_stock (l : Launch) (K : KT) (sz : Nat) (x : Nat) (z : Zt) (t : Zt) (h : Nat → Zt) (π : Nat → Nat) (f : Zt) (u : Zt) (g : Zt) (V : VW) (i : Int32) (m : Int32) (c : Int32) (mm : Nat) (N : Nat) (hm : g 0 = nI mm) (hm4 : mm ≤ 4) (hπ : ∀ k, k < 4 → π k < 4) (hz : z 191 = 0 ∨ z 191 = 1) (hN : z 194 = nI N) (h16 : N ≤ 16) (hzt : (if cNoBuy z i m c < 0 then z else cDoBuy z (i).toNatClampNeg m c) 191 = 0 ∨ (if cNoBuy z i m c < 0 then z else cDoBuy z (i).toNatClampNeg m c) 191 = 1) : Ct l K yX9_stock cX9_stock 4 (some .int) 5 [.ref x, .int i, .int m, .int c] (ww K x z t h π f u g V) sz (some (.int (if cNoBuy z i m c < 0 then cNoBuy z i m c else zPriceC z m c))) (ww K x (sZ (if cNoBuy z i m c < 0 then cNoBuy z i m c else zPriceC z m c) z (if cNoBuy z i m c < 0 then z else cDoBuy z (i).toNatClampNeg m c)) (if cNoBuy z i m c < 0 then z else cDoBuy z (i).toNatClampNeg m c) (sH (if cNoBuy z i m c < 0 then cNoBuy z i m c else zPriceC z m c) h π z) (sP (if cNoBuy z i m c < 0 then cNoBuy z i m c else zPriceC z m c) π) f u (sG (if cNoBuy z i m c < 0 then cNoBuy z i m c else zPriceC z m c) mm g) V) sz 0 0 := by
  refine Ct.ofG (by decide) (Nat.le_of_ble_eq_true rfl) ?_
  intro p9 e9 s9 m9 a9 b9 t9 c9 cx hin9
  refine G.lv0 (lv2 := [(0, .ref x), (1, .int i), (2, .int m), (3, .int c)]) rfl ?_
  refine G.aload_n (pc := 0) cx dX9_stock_0 rfl 0 rfl ?_
  refine G.aload_n (pc := 1) cx dX9_stock_1 rfl 0 rfl ?_
  refine G.callV0 (pc := 2) (rest := [.ref x]) (st1 := [.ref (x + 32), .ref x]) cx (c_X9_newTrial l K sz x z t h π f u g V (by assumption)) ok_X9_newTrial dX9_stock_2 wm_ml_X9_40 rfl ww_x rfl rfl (Nat.le_of_ble_eq_true rfl) ⟨Nat.le_of_ble_eq_true rfl, Nat.le_of_ble_eq_true rfl⟩ rfl ?_
  refine G.iload_n (pc := 5) cx dX9_stock_5 rfl 1 rfl ?_
  refine G.iload_n (pc := 6) cx dX9_stock_6 rfl 2 rfl ?_
  refine G.iload_n (pc := 7) cx dX9_stock_7 rfl 3 rfl ?_
  refine G.cast (V' := (bw K (x + 32) z (ww K x z z h π f u g V))) (ww_b2 _).symm ?_
  refine G.callV0 (pc := 8) (rest := [.ref x]) (st1 := [.int (if cNoBuy z i m c < 0 then cNoBuy z i m c else zPriceC z m c), .ref x]) cx (c_X0_buyForChest l K sz (x + 32) z (ww K x z z h π f u g V) i m c) ok_X0_buyForChest dX9_stock_8 wm_ml_X9_52 rfl bw_b rfl rfl (Nat.le_of_ble_eq_true rfl) ⟨Nat.le_of_ble_eq_true rfl, Nat.le_of_ble_eq_true rfl⟩ rfl ?_
  refine G.cast (V' := (ww K x z (if cNoBuy z i m c < 0 then z else cDoBuy z (i).toNatClampNeg m c) h π f u g V)) (ww_b2 _) ?_
  refine G.callV0 (pc := 11) (rest := []) (st1 := [.int (if cNoBuy z i m c < 0 then cNoBuy z i m c else zPriceC z m c)]) cx (c_X9_settleTrial l K sz x z (if cNoBuy z i m c < 0 then z else cDoBuy z (i).toNatClampNeg m c) h π f u g V (if cNoBuy z i m c < 0 then cNoBuy z i m c else zPriceC z m c) mm (by assumption) (by omega) (by assumption) (by assumption) (by assumption)) ok_X9_settleTrial dX9_stock_11 wm_ml_X9_48 rfl ww_x rfl rfl (Nat.le_of_ble_eq_true rfl) ⟨Nat.le_of_ble_eq_true rfl, Nat.le_of_ble_eq_true rfl⟩ rfl ?_
  refine G.iret (pc := 14) cx rfl dX9_stock_14 ?_ ?_ rfl
  · rfl
  · rfl
set_option maxHeartbeats 4000000 in
set_option maxRecDepth 100000 in
theorem c_X9_sell (l : Launch) (K : KT) (sz : Nat) (x : Nat) (z : Zt) (t : Zt) (h : Nat → Zt) (π : Nat → Nat) (f : Zt) (u : Zt) (g : Zt) (V : VW) (a : Int32) (i : Int32) (m : Int32) (mm : Nat) (N : Nat) (hm : g 0 = nI mm) (hm4 : mm ≤ 4) (hπ : ∀ k, k < 4 → π k < 4) (hz : z 191 = 0 ∨ z 191 = 1) (hN : z 194 = nI N) (h16 : N ≤ 16) (hzt : (if cNoSell z a i m < 0 then z else cDoSell z (a).toNatClampNeg (i).toNatClampNeg m) 191 = 0 ∨ (if cNoSell z a i m < 0 then z else cDoSell z (a).toNatClampNeg (i).toNatClampNeg m) 191 = 1) : Ct l K yX9_sell cX9_sell 4 (some .int) 5 [.ref x, .int a, .int i, .int m] (ww K x z t h π f u g V) sz (some (.int (if cNoSell z a i m < 0 then cNoSell z a i m else m * z (160 + 5 * (i).toNatClampNeg + 1)))) (ww K x (sZ (if cNoSell z a i m < 0 then cNoSell z a i m else m * z (160 + 5 * (i).toNatClampNeg + 1)) z (if cNoSell z a i m < 0 then z else cDoSell z (a).toNatClampNeg (i).toNatClampNeg m)) (if cNoSell z a i m < 0 then z else cDoSell z (a).toNatClampNeg (i).toNatClampNeg m) (sH (if cNoSell z a i m < 0 then cNoSell z a i m else m * z (160 + 5 * (i).toNatClampNeg + 1)) h π z) (sP (if cNoSell z a i m < 0 then cNoSell z a i m else m * z (160 + 5 * (i).toNatClampNeg + 1)) π) f u (sG (if cNoSell z a i m < 0 then cNoSell z a i m else m * z (160 + 5 * (i).toNatClampNeg + 1)) mm g) V) sz 0 0 := by
  refine Ct.ofG (by decide) (Nat.le_of_ble_eq_true rfl) ?_
  intro p9 e9 s9 m9 a9 b9 t9 c9 cx hin9
  refine G.lv0 (lv2 := [(0, .ref x), (1, .int a), (2, .int i), (3, .int m)]) rfl ?_
  refine G.aload_n (pc := 0) cx dX9_sell_0 rfl 0 rfl ?_
  refine G.aload_n (pc := 1) cx dX9_sell_1 rfl 0 rfl ?_
  refine G.callV0 (pc := 2) (rest := [.ref x]) (st1 := [.ref (x + 32), .ref x]) cx (c_X9_newTrial l K sz x z t h π f u g V (by assumption)) ok_X9_newTrial dX9_sell_2 wm_ml_X9_40 rfl ww_x rfl rfl (Nat.le_of_ble_eq_true rfl) ⟨Nat.le_of_ble_eq_true rfl, Nat.le_of_ble_eq_true rfl⟩ rfl ?_
  refine G.iload_n (pc := 5) cx dX9_sell_5 rfl 1 rfl ?_
  refine G.iload_n (pc := 6) cx dX9_sell_6 rfl 2 rfl ?_
  refine G.iload_n (pc := 7) cx dX9_sell_7 rfl 3 rfl ?_
  refine G.cast (V' := (bw K (x + 32) z (ww K x z z h π f u g V))) (ww_b2 _).symm ?_
  refine G.callV0 (pc := 8) (rest := [.ref x]) (st1 := [.int (if cNoSell z a i m < 0 then cNoSell z a i m else m * z (160 + 5 * (i).toNatClampNeg + 1)), .ref x]) cx (c_X0_sellFromChest l K sz (x + 32) z (ww K x z z h π f u g V) a i m N (by assumption) (by omega)) ok_X0_sellFromChest dX9_sell_8 wm_ml_X9_56 rfl bw_b rfl rfl (Nat.le_of_ble_eq_true rfl) ⟨Nat.le_of_ble_eq_true rfl, Nat.le_of_ble_eq_true rfl⟩ rfl ?_
  refine G.cast (V' := (ww K x z (if cNoSell z a i m < 0 then z else cDoSell z (a).toNatClampNeg (i).toNatClampNeg m) h π f u g V)) (ww_b2 _) ?_
  refine G.callV0 (pc := 11) (rest := []) (st1 := [.int (if cNoSell z a i m < 0 then cNoSell z a i m else m * z (160 + 5 * (i).toNatClampNeg + 1))]) cx (c_X9_settleTrial l K sz x z (if cNoSell z a i m < 0 then z else cDoSell z (a).toNatClampNeg (i).toNatClampNeg m) h π f u g V (if cNoSell z a i m < 0 then cNoSell z a i m else m * z (160 + 5 * (i).toNatClampNeg + 1)) mm (by assumption) (by omega) (by assumption) (by assumption) (by assumption)) ok_X9_settleTrial dX9_sell_11 wm_ml_X9_48 rfl ww_x rfl rfl (Nat.le_of_ble_eq_true rfl) ⟨Nat.le_of_ble_eq_true rfl, Nat.le_of_ble_eq_true rfl⟩ rfl ?_
  refine G.iret (pc := 14) cx rfl dX9_sell_14 ?_ ?_ rfl
  · rfl
  · rfl
set_option maxHeartbeats 4000000 in
set_option maxRecDepth 100000 in
theorem c_X9_advance (l : Launch) (K : KT) (sz : Nat) (x : Nat) (z : Zt) (t : Zt) (h : Nat → Zt) (π : Nat → Nat) (f : Zt) (u : Zt) (g : Zt) (V : VW) (a : Int32) (y : Int32) (mm : Nat) (N : Nat) (hm : g 0 = nI mm) (hm4 : mm ≤ 4) (hπ : ∀ k, k < 4 → π k < 4) (hz : z 191 = 0 ∨ z 191 = 1) (hN : z 194 = nI N) (h16 : N ≤ 16) (hzt : (if cNoAdv z a y < 0 then z else cDoAdv z (a).toNatClampNeg y) 191 = 0 ∨ (if cNoAdv z a y < 0 then z else cDoAdv z (a).toNatClampNeg y) 191 = 1) : Ct l K yX9_advance cX9_advance 3 (some .int) 5 [.ref x, .int a, .int y] (ww K x z t h π f u g V) sz (some (.int (if cNoAdv z a y < 0 then cNoAdv z a y else cDoAdv z (a).toNatClampNeg y 195))) (ww K x (sZ (if cNoAdv z a y < 0 then cNoAdv z a y else cDoAdv z (a).toNatClampNeg y 195) z (if cNoAdv z a y < 0 then z else cDoAdv z (a).toNatClampNeg y)) (if cNoAdv z a y < 0 then z else cDoAdv z (a).toNatClampNeg y) (sH (if cNoAdv z a y < 0 then cNoAdv z a y else cDoAdv z (a).toNatClampNeg y 195) h π z) (sP (if cNoAdv z a y < 0 then cNoAdv z a y else cDoAdv z (a).toNatClampNeg y 195) π) f u (sG (if cNoAdv z a y < 0 then cNoAdv z a y else cDoAdv z (a).toNatClampNeg y 195) mm g) V) sz 0 0 := by
  refine Ct.ofG (by decide) (Nat.le_of_ble_eq_true rfl) ?_
  intro p9 e9 s9 m9 a9 b9 t9 c9 cx hin9
  refine G.lv0 (lv2 := [(0, .ref x), (1, .int a), (2, .int y)]) rfl ?_
  refine G.aload_n (pc := 0) cx dX9_advance_0 rfl 0 rfl ?_
  refine G.aload_n (pc := 1) cx dX9_advance_1 rfl 0 rfl ?_
  refine G.callV0 (pc := 2) (rest := [.ref x]) (st1 := [.ref (x + 32), .ref x]) cx (c_X9_newTrial l K sz x z t h π f u g V (by assumption)) ok_X9_newTrial dX9_advance_2 wm_ml_X9_40 rfl ww_x rfl rfl (Nat.le_of_ble_eq_true rfl) ⟨Nat.le_of_ble_eq_true rfl, Nat.le_of_ble_eq_true rfl⟩ rfl ?_
  refine G.iload_n (pc := 5) cx dX9_advance_5 rfl 1 rfl ?_
  refine G.iload_n (pc := 6) cx dX9_advance_6 rfl 2 rfl ?_
  refine G.cast (V' := (bw K (x + 32) z (ww K x z z h π f u g V))) (ww_b2 _).symm ?_
  refine G.callV0 (pc := 7) (rest := [.ref x]) (st1 := [.int (if cNoAdv z a y < 0 then cNoAdv z a y else cDoAdv z (a).toNatClampNeg y 195), .ref x]) cx (c_X0_advanceTo l K sz (x + 32) z (ww K x z z h π f u g V) a y N (by assumption) (by omega)) ok_X0_advanceTo dX9_advance_7 wm_ml_X9_59 rfl bw_b rfl rfl (Nat.le_of_ble_eq_true rfl) ⟨Nat.le_of_ble_eq_true rfl, Nat.le_of_ble_eq_true rfl⟩ rfl ?_
  refine G.cast (V' := (ww K x z (if cNoAdv z a y < 0 then z else cDoAdv z (a).toNatClampNeg y) h π f u g V)) (ww_b2 _) ?_
  refine G.callV0 (pc := 10) (rest := []) (st1 := [.int (if cNoAdv z a y < 0 then cNoAdv z a y else cDoAdv z (a).toNatClampNeg y 195)]) cx (c_X9_settleTrial l K sz x z (if cNoAdv z a y < 0 then z else cDoAdv z (a).toNatClampNeg y) h π f u g V (if cNoAdv z a y < 0 then cNoAdv z a y else cDoAdv z (a).toNatClampNeg y 195) mm (by assumption) (by omega) (by assumption) (by assumption) (by assumption)) ok_X9_settleTrial dX9_advance_10 wm_ml_X9_48 rfl ww_x rfl rfl (Nat.le_of_ble_eq_true rfl) ⟨Nat.le_of_ble_eq_true rfl, Nat.le_of_ble_eq_true rfl⟩ rfl ?_
  refine G.iret (pc := 13) cx rfl dX9_advance_13 ?_ ?_ rfl
  · rfl
  · rfl
set_option maxHeartbeats 4000000 in
set_option maxRecDepth 100000 in
theorem c_X9_fine (l : Launch) (K : KT) (sz : Nat) (x : Nat) (z : Zt) (t : Zt) (h : Nat → Zt) (π : Nat → Nat) (f : Zt) (u : Zt) (g : Zt) (V : VW) (a : Int32) (y : Int32) (mm : Nat) (N : Nat) (hm : g 0 = nI mm) (hm4 : mm ≤ 4) (hπ : ∀ k, k < 4 → π k < 4) (hz : z 191 = 0 ∨ z 191 = 1) (hN : z 194 = nI N) (h16 : N ≤ 16) (hzt : (if cNoFine z a y < 0 then z else cFine z (a).toNatClampNeg y) 191 = 0 ∨ (if cNoFine z a y < 0 then z else cFine z (a).toNatClampNeg y) 191 = 1) : Ct l K yX9_fine cX9_fine 3 (some .int) 5 [.ref x, .int a, .int y] (ww K x z t h π f u g V) sz (some (.int (if cNoFine z a y < 0 then cNoFine z a y else 5000 + cBal (cFine z (a).toNatClampNeg y) (a).toNatClampNeg))) (ww K x (sZ (if cNoFine z a y < 0 then cNoFine z a y else 5000 + cBal (cFine z (a).toNatClampNeg y) (a).toNatClampNeg) z (if cNoFine z a y < 0 then z else cFine z (a).toNatClampNeg y)) (if cNoFine z a y < 0 then z else cFine z (a).toNatClampNeg y) (sH (if cNoFine z a y < 0 then cNoFine z a y else 5000 + cBal (cFine z (a).toNatClampNeg y) (a).toNatClampNeg) h π z) (sP (if cNoFine z a y < 0 then cNoFine z a y else 5000 + cBal (cFine z (a).toNatClampNeg y) (a).toNatClampNeg) π) f u (sG (if cNoFine z a y < 0 then cNoFine z a y else 5000 + cBal (cFine z (a).toNatClampNeg y) (a).toNatClampNeg) mm g) V) sz 0 0 := by
  refine Ct.ofG (by decide) (Nat.le_of_ble_eq_true rfl) ?_
  intro p9 e9 s9 m9 a9 b9 t9 c9 cx hin9
  refine G.lv0 (lv2 := [(0, .ref x), (1, .int a), (2, .int y)]) rfl ?_
  refine G.aload_n (pc := 0) cx dX9_fine_0 rfl 0 rfl ?_
  refine G.aload_n (pc := 1) cx dX9_fine_1 rfl 0 rfl ?_
  refine G.callV0 (pc := 2) (rest := [.ref x]) (st1 := [.ref (x + 32), .ref x]) cx (c_X9_newTrial l K sz x z t h π f u g V (by assumption)) ok_X9_newTrial dX9_fine_2 wm_ml_X9_40 rfl ww_x rfl rfl (Nat.le_of_ble_eq_true rfl) ⟨Nat.le_of_ble_eq_true rfl, Nat.le_of_ble_eq_true rfl⟩ rfl ?_
  refine G.iload_n (pc := 5) cx dX9_fine_5 rfl 1 rfl ?_
  refine G.iload_n (pc := 6) cx dX9_fine_6 rfl 2 rfl ?_
  refine G.cast (V' := (bw K (x + 32) z (ww K x z z h π f u g V))) (ww_b2 _).symm ?_
  refine G.callV0 (pc := 7) (rest := [.ref x]) (st1 := [.int (if cNoFine z a y < 0 then cNoFine z a y else 5000 + cBal (cFine z (a).toNatClampNeg y) (a).toNatClampNeg), .ref x]) cx (c_X0_fineOne l K sz (x + 32) z (ww K x z z h π f u g V) a y N (by assumption) (by omega)) ok_X0_fineOne dX9_fine_7 wm_ml_X9_62 rfl bw_b rfl rfl (Nat.le_of_ble_eq_true rfl) ⟨Nat.le_of_ble_eq_true rfl, Nat.le_of_ble_eq_true rfl⟩ rfl ?_
  refine G.cast (V' := (ww K x z (if cNoFine z a y < 0 then z else cFine z (a).toNatClampNeg y) h π f u g V)) (ww_b2 _) ?_
  refine G.callV0 (pc := 10) (rest := []) (st1 := [.int (if cNoFine z a y < 0 then cNoFine z a y else 5000 + cBal (cFine z (a).toNatClampNeg y) (a).toNatClampNeg)]) cx (c_X9_settleTrial l K sz x z (if cNoFine z a y < 0 then z else cFine z (a).toNatClampNeg y) h π f u g V (if cNoFine z a y < 0 then cNoFine z a y else 5000 + cBal (cFine z (a).toNatClampNeg y) (a).toNatClampNeg) mm (by assumption) (by omega) (by assumption) (by assumption) (by assumption)) ok_X9_settleTrial dX9_fine_10 wm_ml_X9_48 rfl ww_x rfl rfl (Nat.le_of_ble_eq_true rfl) ⟨Nat.le_of_ble_eq_true rfl, Nat.le_of_ble_eq_true rfl⟩ rfl ?_
  refine G.iret (pc := 13) cx rfl dX9_fine_13 ?_ ?_ rfl
  · rfl
  · rfl
set_option maxHeartbeats 4000000 in
set_option maxRecDepth 100000 in
theorem c_X9_fineWatch (l : Launch) (K : KT) (sz : Nat) (x : Nat) (z : Zt) (t : Zt) (h : Nat → Zt) (π : Nat → Nat) (f : Zt) (u : Zt) (g : Zt) (V : VW) (w : Int32) (y : Int32) (mm : Nat) (N : Nat) (hm : g 0 = nI mm) (hm4 : mm ≤ 4) (hπ : ∀ k, k < 4 → π k < 4) (hz : z 191 = 0 ∨ z 191 = 1) (hN : z 194 = nI N) (h16 : N ≤ 16) (hzt : (if cNoFW z N w y < 0 then z else cFineW z N w y) 191 = 0 ∨ (if cNoFW z N w y < 0 then z else cFineW z N w y) 191 = 1) : Ct l K yX9_fineWatch cX9_fineWatch 3 (some .int) 5 [.ref x, .int w, .int y] (ww K x z t h π f u g V) sz (some (.int (if cNoFW z N w y < 0 then cNoFW z N w y else nI (zOfW z w N)))) (ww K x (sZ (if cNoFW z N w y < 0 then cNoFW z N w y else nI (zOfW z w N)) z (if cNoFW z N w y < 0 then z else cFineW z N w y)) (if cNoFW z N w y < 0 then z else cFineW z N w y) (sH (if cNoFW z N w y < 0 then cNoFW z N w y else nI (zOfW z w N)) h π z) (sP (if cNoFW z N w y < 0 then cNoFW z N w y else nI (zOfW z w N)) π) f u (sG (if cNoFW z N w y < 0 then cNoFW z N w y else nI (zOfW z w N)) mm g) V) sz 0 0 := by
  refine Ct.ofG (by decide) (Nat.le_of_ble_eq_true rfl) ?_
  intro p9 e9 s9 m9 a9 b9 t9 c9 cx hin9
  refine G.lv0 (lv2 := [(0, .ref x), (1, .int w), (2, .int y)]) rfl ?_
  refine G.aload_n (pc := 0) cx dX9_fineWatch_0 rfl 0 rfl ?_
  refine G.aload_n (pc := 1) cx dX9_fineWatch_1 rfl 0 rfl ?_
  refine G.callV0 (pc := 2) (rest := [.ref x]) (st1 := [.ref (x + 32), .ref x]) cx (c_X9_newTrial l K sz x z t h π f u g V (by assumption)) ok_X9_newTrial dX9_fineWatch_2 wm_ml_X9_40 rfl ww_x rfl rfl (Nat.le_of_ble_eq_true rfl) ⟨Nat.le_of_ble_eq_true rfl, Nat.le_of_ble_eq_true rfl⟩ rfl ?_
  refine G.iload_n (pc := 5) cx dX9_fineWatch_5 rfl 1 rfl ?_
  refine G.iload_n (pc := 6) cx dX9_fineWatch_6 rfl 2 rfl ?_
  refine G.cast (V' := (bw K (x + 32) z (ww K x z z h π f u g V))) (ww_b2 _).symm ?_
  refine G.callV0 (pc := 7) (rest := [.ref x]) (st1 := [.int (if cNoFW z N w y < 0 then cNoFW z N w y else nI (zOfW z w N)), .ref x]) cx (c_X0_fineAll l K sz (x + 32) z (ww K x z z h π f u g V) w y N (by assumption) (by omega)) ok_X0_fineAll dX9_fineWatch_7 wm_ml_X9_65 rfl bw_b rfl rfl (Nat.le_of_ble_eq_true rfl) ⟨Nat.le_of_ble_eq_true rfl, Nat.le_of_ble_eq_true rfl⟩ rfl ?_
  refine G.cast (V' := (ww K x z (if cNoFW z N w y < 0 then z else cFineW z N w y) h π f u g V)) (ww_b2 _) ?_
  refine G.callV0 (pc := 10) (rest := []) (st1 := [.int (if cNoFW z N w y < 0 then cNoFW z N w y else nI (zOfW z w N))]) cx (c_X9_settleTrial l K sz x z (if cNoFW z N w y < 0 then z else cFineW z N w y) h π f u g V (if cNoFW z N w y < 0 then cNoFW z N w y else nI (zOfW z w N)) mm (by assumption) (by omega) (by assumption) (by assumption) (by assumption)) ok_X9_settleTrial dX9_fineWatch_10 wm_ml_X9_48 rfl ww_x rfl rfl (Nat.le_of_ble_eq_true rfl) ⟨Nat.le_of_ble_eq_true rfl, Nat.le_of_ble_eq_true rfl⟩ rfl ?_
  refine G.iret (pc := 13) cx rfl dX9_fineWatch_13 ?_ ?_ rfl
  · rfl
  · rfl
set_option maxHeartbeats 4000000 in
set_option maxRecDepth 100000 in
theorem c_X9_leave (l : Launch) (K : KT) (sz : Nat) (x : Nat) (z : Zt) (t : Zt) (h : Nat → Zt) (π : Nat → Nat) (f : Zt) (u : Zt) (g : Zt) (V : VW) (w : Int32) (mm : Nat) (N : Nat) (hm : g 0 = nI mm) (hm4 : mm ≤ 4) (hπ : ∀ k, k < 4 → π k < 4) (hz : z 191 = 0 ∨ z 191 = 1) (hN : z 194 = nI N) (h16 : N ≤ 16) (hzt : (if cNoLv z N w < 0 then z else cLeaveTo z w N) 191 = 0 ∨ (if cNoLv z N w < 0 then z else cLeaveTo z w N) 191 = 1) : Ct l K yX9_leave cX9_leave 2 (some .int) 5 [.ref x, .int w] (ww K x z t h π f u g V) sz (some (.int (if cNoLv z N w < 0 then cNoLv z N w else nI (cLeaveN z w N)))) (ww K x (sZ (if cNoLv z N w < 0 then cNoLv z N w else nI (cLeaveN z w N)) z (if cNoLv z N w < 0 then z else cLeaveTo z w N)) (if cNoLv z N w < 0 then z else cLeaveTo z w N) (sH (if cNoLv z N w < 0 then cNoLv z N w else nI (cLeaveN z w N)) h π z) (sP (if cNoLv z N w < 0 then cNoLv z N w else nI (cLeaveN z w N)) π) f u (sG (if cNoLv z N w < 0 then cNoLv z N w else nI (cLeaveN z w N)) mm g) V) sz 0 0 := by
  refine Ct.ofG (by decide) (Nat.le_of_ble_eq_true rfl) ?_
  intro p9 e9 s9 m9 a9 b9 t9 c9 cx hin9
  refine G.lv0 (lv2 := [(0, .ref x), (1, .int w)]) rfl ?_
  refine G.aload_n (pc := 0) cx dX9_leave_0 rfl 0 rfl ?_
  refine G.aload_n (pc := 1) cx dX9_leave_1 rfl 0 rfl ?_
  refine G.callV0 (pc := 2) (rest := [.ref x]) (st1 := [.ref (x + 32), .ref x]) cx (c_X9_newTrial l K sz x z t h π f u g V (by assumption)) ok_X9_newTrial dX9_leave_2 wm_ml_X9_40 rfl ww_x rfl rfl (Nat.le_of_ble_eq_true rfl) ⟨Nat.le_of_ble_eq_true rfl, Nat.le_of_ble_eq_true rfl⟩ rfl ?_
  refine G.iload_n (pc := 5) cx dX9_leave_5 rfl 1 rfl ?_
  refine G.cast (V' := (bw K (x + 32) z (ww K x z z h π f u g V))) (ww_b2 _).symm ?_
  refine G.callV0 (pc := 6) (rest := [.ref x]) (st1 := [.int (if cNoLv z N w < 0 then cNoLv z N w else nI (cLeaveN z w N)), .ref x]) cx (c_X0_letAshore l K sz (x + 32) z (ww K x z z h π f u g V) w N (by assumption) (by omega)) ok_X0_letAshore dX9_leave_6 wm_ml_X9_68 rfl bw_b rfl rfl (Nat.le_of_ble_eq_true rfl) ⟨Nat.le_of_ble_eq_true rfl, Nat.le_of_ble_eq_true rfl⟩ rfl ?_
  refine G.cast (V' := (ww K x z (if cNoLv z N w < 0 then z else cLeaveTo z w N) h π f u g V)) (ww_b2 _) ?_
  refine G.callV0 (pc := 9) (rest := []) (st1 := [.int (if cNoLv z N w < 0 then cNoLv z N w else nI (cLeaveN z w N))]) cx (c_X9_settleTrial l K sz x z (if cNoLv z N w < 0 then z else cLeaveTo z w N) h π f u g V (if cNoLv z N w < 0 then cNoLv z N w else nI (cLeaveN z w N)) mm (by assumption) (by omega) (by assumption) (by assumption) (by assumption)) ok_X9_settleTrial dX9_leave_9 wm_ml_X9_48 rfl ww_x rfl rfl (Nat.le_of_ble_eq_true rfl) ⟨Nat.le_of_ble_eq_true rfl, Nat.le_of_ble_eq_true rfl⟩ rfl ?_
  refine G.iret (pc := 12) cx rfl dX9_leave_12 ?_ ?_ rfl
  · rfl
  · rfl
set_option maxHeartbeats 4000000 in
set_option maxRecDepth 100000 in
theorem c_X9_back (l : Launch) (K : KT) (sz : Nat) (x : Nat) (z : Zt) (t : Zt) (h : Nat → Zt) (π : Nat → Nat) (f : Zt) (u : Zt) (g : Zt) (V : VW) (a : Int32) (y : Int32) (mm : Nat) (N : Nat) (hm : g 0 = nI mm) (hm4 : mm ≤ 4) (hπ : ∀ k, k < 4 → π k < 4) (hz : z 191 = 0 ∨ z 191 = 1) (hN : z 194 = nI N) (h16 : N ≤ 16) (hzt : (if cNoBack z a y < 0 then z else cDoBack z (a).toNatClampNeg y) 191 = 0 ∨ (if cNoBack z a y < 0 then z else cDoBack z (a).toNatClampNeg y) 191 = 1) : Ct l K yX9_back cX9_back 3 (some .int) 5 [.ref x, .int a, .int y] (ww K x z t h π f u g V) sz (some (.int (if cNoBack z a y < 0 then cNoBack z a y else y * z (203 + 2)))) (ww K x (sZ (if cNoBack z a y < 0 then cNoBack z a y else y * z (203 + 2)) z (if cNoBack z a y < 0 then z else cDoBack z (a).toNatClampNeg y)) (if cNoBack z a y < 0 then z else cDoBack z (a).toNatClampNeg y) (sH (if cNoBack z a y < 0 then cNoBack z a y else y * z (203 + 2)) h π z) (sP (if cNoBack z a y < 0 then cNoBack z a y else y * z (203 + 2)) π) f u (sG (if cNoBack z a y < 0 then cNoBack z a y else y * z (203 + 2)) mm g) V) sz 0 0 := by
  refine Ct.ofG (by decide) (Nat.le_of_ble_eq_true rfl) ?_
  intro p9 e9 s9 m9 a9 b9 t9 c9 cx hin9
  refine G.lv0 (lv2 := [(0, .ref x), (1, .int a), (2, .int y)]) rfl ?_
  refine G.aload_n (pc := 0) cx dX9_back_0 rfl 0 rfl ?_
  refine G.aload_n (pc := 1) cx dX9_back_1 rfl 0 rfl ?_
  refine G.callV0 (pc := 2) (rest := [.ref x]) (st1 := [.ref (x + 32), .ref x]) cx (c_X9_newTrial l K sz x z t h π f u g V (by assumption)) ok_X9_newTrial dX9_back_2 wm_ml_X9_40 rfl ww_x rfl rfl (Nat.le_of_ble_eq_true rfl) ⟨Nat.le_of_ble_eq_true rfl, Nat.le_of_ble_eq_true rfl⟩ rfl ?_
  refine G.iload_n (pc := 5) cx dX9_back_5 rfl 1 rfl ?_
  refine G.iload_n (pc := 6) cx dX9_back_6 rfl 2 rfl ?_
  refine G.cast (V' := (bw K (x + 32) z (ww K x z z h π f u g V))) (ww_b2 _).symm ?_
  refine G.callV0 (pc := 7) (rest := [.ref x]) (st1 := [.int (if cNoBack z a y < 0 then cNoBack z a y else y * z (203 + 2)), .ref x]) cx (c_X0_comeBack l K sz (x + 32) z (ww K x z z h π f u g V) a y N (by assumption) (by omega)) ok_X0_comeBack dX9_back_7 wm_ml_X9_71 rfl bw_b rfl rfl (Nat.le_of_ble_eq_true rfl) ⟨Nat.le_of_ble_eq_true rfl, Nat.le_of_ble_eq_true rfl⟩ rfl ?_
  refine G.cast (V' := (ww K x z (if cNoBack z a y < 0 then z else cDoBack z (a).toNatClampNeg y) h π f u g V)) (ww_b2 _) ?_
  refine G.callV0 (pc := 10) (rest := []) (st1 := [.int (if cNoBack z a y < 0 then cNoBack z a y else y * z (203 + 2))]) cx (c_X9_settleTrial l K sz x z (if cNoBack z a y < 0 then z else cDoBack z (a).toNatClampNeg y) h π f u g V (if cNoBack z a y < 0 then cNoBack z a y else y * z (203 + 2)) mm (by assumption) (by omega) (by assumption) (by assumption) (by assumption)) ok_X9_settleTrial dX9_back_10 wm_ml_X9_48 rfl ww_x rfl rfl (Nat.le_of_ble_eq_true rfl) ⟨Nat.le_of_ble_eq_true rfl, Nat.le_of_ble_eq_true rfl⟩ rfl ?_
  refine G.iret (pc := 13) cx rfl dX9_back_13 ?_ ?_ rfl
  · rfl
  · rfl
set_option maxHeartbeats 4000000 in
set_option maxRecDepth 100000 in
theorem c_X9_sail (l : Launch) (K : KT) (sz : Nat) (x : Nat) (z : Zt) (t : Zt) (h : Nat → Zt) (π : Nat → Nat) (f : Zt) (u : Zt) (g : Zt) (V : VW) (mm : Nat) (N : Nat) (hm : g 0 = nI mm) (hm4 : mm ≤ 4) (hπ : ∀ k, k < 4 → π k < 4) (hz : z 191 = 0 ∨ z 191 = 1) (hN : z 194 = nI N) (h16 : N ≤ 16) (hzt : (if cNoSail z < 0 then z else upd (cSailTo z N) 191 1) 191 = 0 ∨ (if cNoSail z < 0 then z else upd (cSailTo z N) 191 1) 191 = 1) : Ct l K yX9_sail cX9_sail 1 (some .int) 5 [.ref x] (ww K x z t h π f u g V) sz (some (.int (if cNoSail z < 0 then cNoSail z else nI (cLeft z N)))) (ww K x (sZ (if cNoSail z < 0 then cNoSail z else nI (cLeft z N)) z (if cNoSail z < 0 then z else upd (cSailTo z N) 191 1)) (if cNoSail z < 0 then z else upd (cSailTo z N) 191 1) (sH (if cNoSail z < 0 then cNoSail z else nI (cLeft z N)) h π z) (sP (if cNoSail z < 0 then cNoSail z else nI (cLeft z N)) π) f u (sG (if cNoSail z < 0 then cNoSail z else nI (cLeft z N)) mm g) V) sz 0 0 := by
  refine Ct.ofG (by decide) (Nat.le_of_ble_eq_true rfl) ?_
  intro p9 e9 s9 m9 a9 b9 t9 c9 cx hin9
  refine G.lv0 (lv2 := [(0, .ref x)]) rfl ?_
  refine G.aload_n (pc := 0) cx dX9_sail_0 rfl 0 rfl ?_
  refine G.aload_n (pc := 1) cx dX9_sail_1 rfl 0 rfl ?_
  refine G.callV0 (pc := 2) (rest := [.ref x]) (st1 := [.ref (x + 32), .ref x]) cx (c_X9_newTrial l K sz x z t h π f u g V (by assumption)) ok_X9_newTrial dX9_sail_2 wm_ml_X9_40 rfl ww_x rfl rfl (Nat.le_of_ble_eq_true rfl) ⟨Nat.le_of_ble_eq_true rfl, Nat.le_of_ble_eq_true rfl⟩ rfl ?_
  refine G.cast (V' := (bw K (x + 32) z (ww K x z z h π f u g V))) (ww_b2 _).symm ?_
  refine G.callV0 (pc := 5) (rest := [.ref x]) (st1 := [.int (if cNoSail z < 0 then cNoSail z else nI (cLeft z N)), .ref x]) cx (c_X0_putToSea l K sz (x + 32) z (ww K x z z h π f u g V) N (by assumption) (by omega)) ok_X0_putToSea dX9_sail_5 wm_ml_X9_74 rfl bw_b rfl rfl (Nat.le_of_ble_eq_true rfl) ⟨Nat.le_of_ble_eq_true rfl, Nat.le_of_ble_eq_true rfl⟩ rfl ?_
  refine G.cast (V' := (ww K x z (if cNoSail z < 0 then z else upd (cSailTo z N) 191 1) h π f u g V)) (ww_b2 _) ?_
  refine G.callV0 (pc := 8) (rest := []) (st1 := [.int (if cNoSail z < 0 then cNoSail z else nI (cLeft z N))]) cx (c_X9_settleTrial l K sz x z (if cNoSail z < 0 then z else upd (cSailTo z N) 191 1) h π f u g V (if cNoSail z < 0 then cNoSail z else nI (cLeft z N)) mm (by assumption) (by omega) (by assumption) (by assumption) (by assumption)) ok_X9_settleTrial dX9_sail_8 wm_ml_X9_48 rfl ww_x rfl rfl (Nat.le_of_ble_eq_true rfl) ⟨Nat.le_of_ble_eq_true rfl, Nat.le_of_ble_eq_true rfl⟩ rfl ?_
  refine G.iret (pc := 11) cx rfl dX9_sail_11 ?_ ?_ rfl
  · rfl
  · rfl
set_option maxHeartbeats 4000000 in
set_option maxRecDepth 100000 in
theorem c_X9_port (l : Launch) (K : KT) (sz : Nat) (x : Nat) (z : Zt) (t : Zt) (h : Nat → Zt) (π : Nat → Nat) (f : Zt) (u : Zt) (g : Zt) (V : VW) (mm : Nat) (N : Nat) (hm : g 0 = nI mm) (hm4 : mm ≤ 4) (hπ : ∀ k, k < 4 → π k < 4) (hz : z 191 = 0 ∨ z 191 = 1) (hN : z 194 = nI N) (h16 : N ≤ 16) (hzt : (if cNoPort z < 0 then z else upd (upd z 191 0) 193 (z 193 + 1)) 191 = 0 ∨ (if cNoPort z < 0 then z else upd (upd z 191 0) 193 (z 193 + 1)) 191 = 1) : Ct l K yX9_port cX9_port 1 (some .int) 5 [.ref x] (ww K x z t h π f u g V) sz (some (.int (if cNoPort z < 0 then cNoPort z else z 193 + 1))) (ww K x (sZ (if cNoPort z < 0 then cNoPort z else z 193 + 1) z (if cNoPort z < 0 then z else upd (upd z 191 0) 193 (z 193 + 1))) (if cNoPort z < 0 then z else upd (upd z 191 0) 193 (z 193 + 1)) (sH (if cNoPort z < 0 then cNoPort z else z 193 + 1) h π z) (sP (if cNoPort z < 0 then cNoPort z else z 193 + 1) π) f u (sG (if cNoPort z < 0 then cNoPort z else z 193 + 1) mm g) V) sz 0 0 := by
  refine Ct.ofG (by decide) (Nat.le_of_ble_eq_true rfl) ?_
  intro p9 e9 s9 m9 a9 b9 t9 c9 cx hin9
  refine G.lv0 (lv2 := [(0, .ref x)]) rfl ?_
  refine G.aload_n (pc := 0) cx dX9_port_0 rfl 0 rfl ?_
  refine G.aload_n (pc := 1) cx dX9_port_1 rfl 0 rfl ?_
  refine G.callV0 (pc := 2) (rest := [.ref x]) (st1 := [.ref (x + 32), .ref x]) cx (c_X9_newTrial l K sz x z t h π f u g V (by assumption)) ok_X9_newTrial dX9_port_2 wm_ml_X9_40 rfl ww_x rfl rfl (Nat.le_of_ble_eq_true rfl) ⟨Nat.le_of_ble_eq_true rfl, Nat.le_of_ble_eq_true rfl⟩ rfl ?_
  refine G.cast (V' := (bw K (x + 32) z (ww K x z z h π f u g V))) (ww_b2 _).symm ?_
  refine G.callV0 (pc := 5) (rest := [.ref x]) (st1 := [.int (if cNoPort z < 0 then cNoPort z else z 193 + 1), .ref x]) cx (c_X0_comeIntoPort l K sz (x + 32) z (ww K x z z h π f u g V)) ok_X0_comeIntoPort dX9_port_5 wm_ml_X9_78 rfl bw_b rfl rfl (Nat.le_of_ble_eq_true rfl) ⟨Nat.le_of_ble_eq_true rfl, Nat.le_of_ble_eq_true rfl⟩ rfl ?_
  refine G.cast (V' := (ww K x z (if cNoPort z < 0 then z else upd (upd z 191 0) 193 (z 193 + 1)) h π f u g V)) (ww_b2 _) ?_
  refine G.callV0 (pc := 8) (rest := []) (st1 := [.int (if cNoPort z < 0 then cNoPort z else z 193 + 1)]) cx (c_X9_settleTrial l K sz x z (if cNoPort z < 0 then z else upd (upd z 191 0) 193 (z 193 + 1)) h π f u g V (if cNoPort z < 0 then cNoPort z else z 193 + 1) mm (by assumption) (by omega) (by assumption) (by assumption) (by assumption)) ok_X9_settleTrial dX9_port_8 wm_ml_X9_48 rfl ww_x rfl rfl (Nat.le_of_ble_eq_true rfl) ⟨Nat.le_of_ble_eq_true rfl, Nat.le_of_ble_eq_true rfl⟩ rfl ?_
  refine G.iret (pc := 11) cx rfl dX9_port_11 ?_ ?_ rfl
  · rfl
  · rfl
set_option maxHeartbeats 4000000 in
set_option maxRecDepth 100000 in
theorem c_X9_days (l : Launch) (K : KT) (sz : Nat) (x : Nat) (z : Zt) (t : Zt) (h : Nat → Zt) (π : Nat → Nat) (f : Zt) (u : Zt) (g : Zt) (V : VW) (m : Int32) (mm : Nat) (N : Nat) (hm : g 0 = nI mm) (hm4 : mm ≤ 4) (hπ : ∀ k, k < 4 → π k < 4) (hz : z 191 = 0 ∨ z 191 = 1) (hN : z 194 = nI N) (h16 : N ≤ 16) (hzt : (if cNoDays z m < 0 then z else upd (cDayTo z m N) 192 (z 192 + m)) 191 = 0 ∨ (if cNoDays z m < 0 then z else upd (cDayTo z m N) 192 (z 192 + m)) 191 = 1) : Ct l K yX9_days cX9_days 2 (some .int) 5 [.ref x, .int m] (ww K x z t h π f u g V) sz (some (.int (if cNoDays z m < 0 then cNoDays z m else z 192 + m))) (ww K x (sZ (if cNoDays z m < 0 then cNoDays z m else z 192 + m) z (if cNoDays z m < 0 then z else upd (cDayTo z m N) 192 (z 192 + m))) (if cNoDays z m < 0 then z else upd (cDayTo z m N) 192 (z 192 + m)) (sH (if cNoDays z m < 0 then cNoDays z m else z 192 + m) h π z) (sP (if cNoDays z m < 0 then cNoDays z m else z 192 + m) π) f u (sG (if cNoDays z m < 0 then cNoDays z m else z 192 + m) mm g) V) sz 0 0 := by
  refine Ct.ofG (by decide) (Nat.le_of_ble_eq_true rfl) ?_
  intro p9 e9 s9 m9 a9 b9 t9 c9 cx hin9
  refine G.lv0 (lv2 := [(0, .ref x), (1, .int m)]) rfl ?_
  refine G.aload_n (pc := 0) cx dX9_days_0 rfl 0 rfl ?_
  refine G.aload_n (pc := 1) cx dX9_days_1 rfl 0 rfl ?_
  refine G.callV0 (pc := 2) (rest := [.ref x]) (st1 := [.ref (x + 32), .ref x]) cx (c_X9_newTrial l K sz x z t h π f u g V (by assumption)) ok_X9_newTrial dX9_days_2 wm_ml_X9_40 rfl ww_x rfl rfl (Nat.le_of_ble_eq_true rfl) ⟨Nat.le_of_ble_eq_true rfl, Nat.le_of_ble_eq_true rfl⟩ rfl ?_
  refine G.iload_n (pc := 5) cx dX9_days_5 rfl 1 rfl ?_
  refine G.cast (V' := (bw K (x + 32) z (ww K x z z h π f u g V))) (ww_b2 _).symm ?_
  refine G.callV0 (pc := 6) (rest := [.ref x]) (st1 := [.int (if cNoDays z m < 0 then cNoDays z m else z 192 + m), .ref x]) cx (c_X0_passDays l K sz (x + 32) z (ww K x z z h π f u g V) m N (by assumption) (by omega)) ok_X0_passDays dX9_days_6 wm_ml_X9_81 rfl bw_b rfl rfl (Nat.le_of_ble_eq_true rfl) ⟨Nat.le_of_ble_eq_true rfl, Nat.le_of_ble_eq_true rfl⟩ rfl ?_
  refine G.cast (V' := (ww K x z (if cNoDays z m < 0 then z else upd (cDayTo z m N) 192 (z 192 + m)) h π f u g V)) (ww_b2 _) ?_
  refine G.callV0 (pc := 9) (rest := []) (st1 := [.int (if cNoDays z m < 0 then cNoDays z m else z 192 + m)]) cx (c_X9_settleTrial l K sz x z (if cNoDays z m < 0 then z else upd (cDayTo z m N) 192 (z 192 + m)) h π f u g V (if cNoDays z m < 0 then cNoDays z m else z 192 + m) mm (by assumption) (by omega) (by assumption) (by assumption) (by assumption)) ok_X9_settleTrial dX9_days_9 wm_ml_X9_48 rfl ww_x rfl rfl (Nat.le_of_ble_eq_true rfl) ⟨Nat.le_of_ble_eq_true rfl, Nat.le_of_ble_eq_true rfl⟩ rfl ?_
  refine G.iret (pc := 12) cx rfl dX9_days_12 ?_ ?_ rfl
  · rfl
  · rfl
set_option maxHeartbeats 4000000 in
set_option maxRecDepth 100000 in
theorem c_X9_dismiss (l : Launch) (K : KT) (sz : Nat) (x : Nat) (z : Zt) (t : Zt) (h : Nat → Zt) (π : Nat → Nat) (f : Zt) (u : Zt) (g : Zt) (V : VW) (a : Int32) (mm : Nat) (N : Nat) (hm : g 0 = nI mm) (hm4 : mm ≤ 4) (hπ : ∀ k, k < 4 → π k < 4) (hz : z 191 = 0 ∨ z 191 = 1) (hN : z 194 = nI N) (h16 : N ≤ 16) (hzt : (if cNoDis z a < 0 then z else cDoDis z (a).toNatClampNeg) 191 = 0 ∨ (if cNoDis z a < 0 then z else cDoDis z (a).toNatClampNeg) 191 = 1) : Ct l K yX9_dismiss cX9_dismiss 2 (some .int) 5 [.ref x, .int a] (ww K x z t h π f u g V) sz (some (.int (if cNoDis z a < 0 then cNoDis z a else cBal z (a).toNatClampNeg))) (ww K x (sZ (if cNoDis z a < 0 then cNoDis z a else cBal z (a).toNatClampNeg) z (if cNoDis z a < 0 then z else cDoDis z (a).toNatClampNeg)) (if cNoDis z a < 0 then z else cDoDis z (a).toNatClampNeg) (sH (if cNoDis z a < 0 then cNoDis z a else cBal z (a).toNatClampNeg) h π z) (sP (if cNoDis z a < 0 then cNoDis z a else cBal z (a).toNatClampNeg) π) f u (sG (if cNoDis z a < 0 then cNoDis z a else cBal z (a).toNatClampNeg) mm g) V) sz 0 0 := by
  refine Ct.ofG (by decide) (Nat.le_of_ble_eq_true rfl) ?_
  intro p9 e9 s9 m9 a9 b9 t9 c9 cx hin9
  refine G.lv0 (lv2 := [(0, .ref x), (1, .int a)]) rfl ?_
  refine G.aload_n (pc := 0) cx dX9_dismiss_0 rfl 0 rfl ?_
  refine G.aload_n (pc := 1) cx dX9_dismiss_1 rfl 0 rfl ?_
  refine G.callV0 (pc := 2) (rest := [.ref x]) (st1 := [.ref (x + 32), .ref x]) cx (c_X9_newTrial l K sz x z t h π f u g V (by assumption)) ok_X9_newTrial dX9_dismiss_2 wm_ml_X9_40 rfl ww_x rfl rfl (Nat.le_of_ble_eq_true rfl) ⟨Nat.le_of_ble_eq_true rfl, Nat.le_of_ble_eq_true rfl⟩ rfl ?_
  refine G.iload_n (pc := 5) cx dX9_dismiss_5 rfl 1 rfl ?_
  refine G.cast (V' := (bw K (x + 32) z (ww K x z z h π f u g V))) (ww_b2 _).symm ?_
  refine G.callV0 (pc := 6) (rest := [.ref x]) (st1 := [.int (if cNoDis z a < 0 then cNoDis z a else cBal z (a).toNatClampNeg), .ref x]) cx (c_X0_sendAway l K sz (x + 32) z (ww K x z z h π f u g V) a N (by assumption) (by omega)) ok_X0_sendAway dX9_dismiss_6 wm_ml_X9_84 rfl bw_b rfl rfl (Nat.le_of_ble_eq_true rfl) ⟨Nat.le_of_ble_eq_true rfl, Nat.le_of_ble_eq_true rfl⟩ rfl ?_
  refine G.cast (V' := (ww K x z (if cNoDis z a < 0 then z else cDoDis z (a).toNatClampNeg) h π f u g V)) (ww_b2 _) ?_
  refine G.callV0 (pc := 9) (rest := []) (st1 := [.int (if cNoDis z a < 0 then cNoDis z a else cBal z (a).toNatClampNeg)]) cx (c_X9_settleTrial l K sz x z (if cNoDis z a < 0 then z else cDoDis z (a).toNatClampNeg) h π f u g V (if cNoDis z a < 0 then cNoDis z a else cBal z (a).toNatClampNeg) mm (by assumption) (by omega) (by assumption) (by assumption) (by assumption)) ok_X9_settleTrial dX9_dismiss_9 wm_ml_X9_48 rfl ww_x rfl rfl (Nat.le_of_ble_eq_true rfl) ⟨Nat.le_of_ble_eq_true rfl, Nat.le_of_ble_eq_true rfl⟩ rfl ?_
  refine G.iret (pc := 12) cx rfl dX9_dismiss_12 ?_ ?_ rfl
  · rfl
  · rfl
set_option maxHeartbeats 4000000 in
set_option maxRecDepth 100000 in
theorem c_X9_payOff (l : Launch) (K : KT) (sz : Nat) (x : Nat) (z : Zt) (t : Zt) (h : Nat → Zt) (π : Nat → Nat) (f : Zt) (u : Zt) (g : Zt) (V : VW) (mm : Nat) (N : Nat) (hm : g 0 = nI mm) (hm4 : mm ≤ 4) (hπ : ∀ k, k < 4 → π k < 4) (hz : z 191 = 0 ∨ z 191 = 1) (hN : z 194 = nI N) (h16 : N ≤ 16) (hzt : (if cNoPO z < 0 then z else cDoPO z N) 191 = 0 ∨ (if cNoPO z < 0 then z else cDoPO z N) 191 = 1) : Ct l K yX9_payOff cX9_payOff 1 (some .int) 5 [.ref x] (ww K x z t h π f u g V) sz (some (.int (if cNoPO z < 0 then cNoPO z else cPOSum z N))) (ww K x (sZ (if cNoPO z < 0 then cNoPO z else cPOSum z N) z (if cNoPO z < 0 then z else cDoPO z N)) (if cNoPO z < 0 then z else cDoPO z N) (sH (if cNoPO z < 0 then cNoPO z else cPOSum z N) h π z) (sP (if cNoPO z < 0 then cNoPO z else cPOSum z N) π) f u (sG (if cNoPO z < 0 then cNoPO z else cPOSum z N) mm g) V) sz 0 0 := by
  refine Ct.ofG (by decide) (Nat.le_of_ble_eq_true rfl) ?_
  intro p9 e9 s9 m9 a9 b9 t9 c9 cx hin9
  refine G.lv0 (lv2 := [(0, .ref x)]) rfl ?_
  refine G.aload_n (pc := 0) cx dX9_payOff_0 rfl 0 rfl ?_
  refine G.aload_n (pc := 1) cx dX9_payOff_1 rfl 0 rfl ?_
  refine G.callV0 (pc := 2) (rest := [.ref x]) (st1 := [.ref (x + 32), .ref x]) cx (c_X9_newTrial l K sz x z t h π f u g V (by assumption)) ok_X9_newTrial dX9_payOff_2 wm_ml_X9_40 rfl ww_x rfl rfl (Nat.le_of_ble_eq_true rfl) ⟨Nat.le_of_ble_eq_true rfl, Nat.le_of_ble_eq_true rfl⟩ rfl ?_
  refine G.cast (V' := (bw K (x + 32) z (ww K x z z h π f u g V))) (ww_b2 _).symm ?_
  refine G.callV0 (pc := 5) (rest := [.ref x]) (st1 := [.int (if cNoPO z < 0 then cNoPO z else cPOSum z N), .ref x]) cx (c_X0_endVoyage l K sz (x + 32) z (ww K x z z h π f u g V) N (by assumption) (by omega)) ok_X0_endVoyage dX9_payOff_5 wm_ml_X9_87 rfl bw_b rfl rfl (Nat.le_of_ble_eq_true rfl) ⟨Nat.le_of_ble_eq_true rfl, Nat.le_of_ble_eq_true rfl⟩ rfl ?_
  refine G.cast (V' := (ww K x z (if cNoPO z < 0 then z else cDoPO z N) h π f u g V)) (ww_b2 _) ?_
  refine G.callV0 (pc := 8) (rest := []) (st1 := [.int (if cNoPO z < 0 then cNoPO z else cPOSum z N)]) cx (c_X9_settleTrial l K sz x z (if cNoPO z < 0 then z else cDoPO z N) h π f u g V (if cNoPO z < 0 then cNoPO z else cPOSum z N) mm (by assumption) (by omega) (by assumption) (by assumption) (by assumption)) ok_X9_settleTrial dX9_payOff_8 wm_ml_X9_48 rfl ww_x rfl rfl (Nat.le_of_ble_eq_true rfl) ⟨Nat.le_of_ble_eq_true rfl, Nat.le_of_ble_eq_true rfl⟩ rfl ?_
  refine G.iret (pc := 11) cx rfl dX9_payOff_11 ?_ ?_ rfl
  · rfl
  · rfl
set_option maxHeartbeats 4000000 in
set_option maxRecDepth 100000 in
theorem c_X9_set (l : Launch) (K : KT) (sz : Nat) (x : Nat) (z : Zt) (t : Zt) (h : Nat → Zt) (π : Nat → Nat) (f : Zt) (u : Zt) (g : Zt) (V : VW) (q : Int32) (v : Int32) (mm : Nat) (N : Nat) (hm : g 0 = nI mm) (hm4 : mm ≤ 4) (hπ : ∀ k, k < 4 → π k < 4) (hz : z 191 = 0 ∨ z 191 = 1) (hN : z 194 = nI N) (h16 : N ≤ 16) (hzt : (if cNoSet q v < 0 then z else upd z (203 + (q).toNatClampNeg) v) 191 = 0 ∨ (if cNoSet q v < 0 then z else upd z (203 + (q).toNatClampNeg) v) 191 = 1) : Ct l K yX9_set cX9_set 3 (some .int) 5 [.ref x, .int q, .int v] (ww K x z t h π f u g V) sz (some (.int (if cNoSet q v < 0 then cNoSet q v else z (203 + (q).toNatClampNeg)))) (ww K x (sZ (if cNoSet q v < 0 then cNoSet q v else z (203 + (q).toNatClampNeg)) z (if cNoSet q v < 0 then z else upd z (203 + (q).toNatClampNeg) v)) (if cNoSet q v < 0 then z else upd z (203 + (q).toNatClampNeg) v) (sH (if cNoSet q v < 0 then cNoSet q v else z (203 + (q).toNatClampNeg)) h π z) (sP (if cNoSet q v < 0 then cNoSet q v else z (203 + (q).toNatClampNeg)) π) f u (sG (if cNoSet q v < 0 then cNoSet q v else z (203 + (q).toNatClampNeg)) mm g) V) sz 0 0 := by
  refine Ct.ofG (by decide) (Nat.le_of_ble_eq_true rfl) ?_
  intro p9 e9 s9 m9 a9 b9 t9 c9 cx hin9
  refine G.lv0 (lv2 := [(0, .ref x), (1, .int q), (2, .int v)]) rfl ?_
  refine G.aload_n (pc := 0) cx dX9_set_0 rfl 0 rfl ?_
  refine G.aload_n (pc := 1) cx dX9_set_1 rfl 0 rfl ?_
  refine G.callV0 (pc := 2) (rest := [.ref x]) (st1 := [.ref (x + 32), .ref x]) cx (c_X9_newTrial l K sz x z t h π f u g V (by assumption)) ok_X9_newTrial dX9_set_2 wm_ml_X9_40 rfl ww_x rfl rfl (Nat.le_of_ble_eq_true rfl) ⟨Nat.le_of_ble_eq_true rfl, Nat.le_of_ble_eq_true rfl⟩ rfl ?_
  refine G.iload_n (pc := 5) cx dX9_set_5 rfl 1 rfl ?_
  refine G.iload_n (pc := 6) cx dX9_set_6 rfl 2 rfl ?_
  refine G.cast (V' := (bw K (x + 32) z (ww K x z z h π f u g V))) (ww_b2 _).symm ?_
  refine G.callV0 (pc := 7) (rest := [.ref x]) (st1 := [.int (if cNoSet q v < 0 then cNoSet q v else z (203 + (q).toNatClampNeg)), .ref x]) cx (c_X0_changeSetting l K sz (x + 32) z (ww K x z z h π f u g V) q v) ok_X0_changeSetting dX9_set_7 wm_ml_X9_90 rfl bw_b rfl rfl (Nat.le_of_ble_eq_true rfl) ⟨Nat.le_of_ble_eq_true rfl, Nat.le_of_ble_eq_true rfl⟩ rfl ?_
  refine G.cast (V' := (ww K x z (if cNoSet q v < 0 then z else upd z (203 + (q).toNatClampNeg) v) h π f u g V)) (ww_b2 _) ?_
  refine G.callV0 (pc := 10) (rest := []) (st1 := [.int (if cNoSet q v < 0 then cNoSet q v else z (203 + (q).toNatClampNeg))]) cx (c_X9_settleTrial l K sz x z (if cNoSet q v < 0 then z else upd z (203 + (q).toNatClampNeg) v) h π f u g V (if cNoSet q v < 0 then cNoSet q v else z (203 + (q).toNatClampNeg)) mm (by assumption) (by omega) (by assumption) (by assumption) (by assumption)) ok_X9_settleTrial dX9_set_10 wm_ml_X9_48 rfl ww_x rfl rfl (Nat.le_of_ble_eq_true rfl) ⟨Nat.le_of_ble_eq_true rfl, Nat.le_of_ble_eq_true rfl⟩ rfl ?_
  refine G.iret (pc := 13) cx rfl dX9_set_13 ?_ ?_ rfl
  · rfl
  · rfl
set_option maxHeartbeats 4000000 in
set_option maxRecDepth 100000 in
theorem c_X9_sailor (l : Launch) (K : KT) (sz : Nat) (x : Nat) (z : Zt) (t : Zt) (h : Nat → Zt) (π : Nat → Nat) (f : Zt) (u : Zt) (g : Zt) (V : VW) (a : Int32) (q : Int32) (N : Nat) (hN : z 194 = nI N) (h16 : N ≤ 16) : Ct l K yX9_sailor cX9_sailor 4 (some .int) 5 [.ref x, .int a, .int q] (ww K x z t h π f u g V) sz (some (.int (if 0 ≤ a ∧ a ≤ z 194 - 1 then cTellS z (a).toNatClampNeg q else -1000001))) (ww K x z t h π f u g V) sz 0 0 := by
  refine Ct.ofG (by decide) (Nat.le_of_ble_eq_true rfl) ?_
  intro p9 e9 s9 m9 a9 b9 t9 c9 cx hin9
  refine G.lv0 (lv2 := [(0, .ref x), (1, .int a), (2, .int q)]) rfl ?_
  by_cases hS : 0 ≤ a ∧ a ≤ z 194 - 1
  · skip
    obtain ⟨k, hk, rfl⟩ := sail_of hN h16 hS
    have tk : (nI k).toNatClampNeg = k := nI_clamp (by omega)
    refine G.aload_n (pc := 0) cx dX9_sailor_0 rfl 0 rfl ?_
    refine G.getV (pc := 1) cx dX9_sailor_1 (T := TX9) 0 wm_fl_X9_10 inlX9 rfl (by decide) ww_x rfl ?_
    refine G.iload_n (pc := 4) cx dX9_sailor_4 rfl 1 rfl ?_
    refine G.cast (V' := (bw K (x + 1) z (ww K x z t h π f u g V))) (ww_b1 _).symm ?_
    refine G.callV0 (pc := 5) (rest := []) (st1 := [.ref (x + 1 + 2 + k)]) cx (c_X0_findSailor l K sz (x + 1) z (ww K x z t h π f u g V) N k (by assumption) (by omega) (by omega)) ok_X0_findSailor dX9_sailor_5 wm_ml_X9_93 rfl bw_b rfl rfl (Nat.le_of_ble_eq_true rfl) ⟨Nat.le_of_ble_eq_true rfl, Nat.le_of_ble_eq_true rfl⟩ rfl ?_
    refine G.cast (V' := (ww K x z t h π f u g V)) (ww_b1 _) ?_
    refine G.astore_n (pc := 8) cx dX9_sailor_8 rfl (by decide) rfl ?_
    refine G.aload_n (pc := 9) cx dX9_sailor_9 rfl 0 rfl ?_
    refine G.ifnonnull (pc := 10) cx dX9_sailor_10 (tgt := 18) (by decide) ?_
    refine G.aload_n (pc := 18) cx dX9_sailor_18 rfl 0 rfl ?_
    refine G.iload_n (pc := 19) cx dX9_sailor_19 rfl 3 rfl ?_
    refine G.cast (V' := (bw K (x + 1) z (ww K x z t h π f u g V))) (ww_b1 _).symm ?_
    refine G.callV0 (pc := 20) (rest := []) (st1 := [.int (cTellS z k q)]) cx (c_X6_tell l K sz (x + 1) z (ww K x z t h π f u g V) k q (by omega)) ok_X6_tell dX9_sailor_20 wm_ml_X9_98 rfl (bw_s (by omega)) rfl rfl (Nat.le_of_ble_eq_true rfl) ⟨Nat.le_of_ble_eq_true rfl, Nat.le_of_ble_eq_true rfl⟩ rfl ?_
    refine G.cast (V' := (ww K x z t h π f u g V)) (ww_b1 _) ?_
    refine G.iret (pc := 23) cx rfl dX9_sailor_23 ?_ ?_ rfl
    · refine congrArg (fun x => some (Value.int x)) ?_
      (try clear hin9); (try clear cx); (try clear hN); simp [*]
    · rfl
  · skip
    refine G.aload_n (pc := 0) cx dX9_sailor_0 rfl 0 rfl ?_
    refine G.getV (pc := 1) cx dX9_sailor_1 (T := TX9) 0 wm_fl_X9_10 inlX9 rfl (by decide) ww_x rfl ?_
    refine G.iload_n (pc := 4) cx dX9_sailor_4 rfl 1 rfl ?_
    refine G.cast (V' := (bw K (x + 1) z (ww K x z t h π f u g V))) (ww_b1 _).symm ?_
    refine G.callV0 (pc := 5) (rest := []) (st1 := [.null]) cx (c_X0_findSailorN l K sz (x + 1) z (ww K x z t h π f u g V) N a (by assumption) (by omega) (by assumption)) ok_X0_findSailor dX9_sailor_5 wm_ml_X9_93 rfl bw_b rfl rfl (Nat.le_of_ble_eq_true rfl) ⟨Nat.le_of_ble_eq_true rfl, Nat.le_of_ble_eq_true rfl⟩ rfl ?_
    refine G.cast (V' := (ww K x z t h π f u g V)) (ww_b1 _) ?_
    refine G.astore_nN (pc := 8) cx dX9_sailor_8 rfl (by decide) rfl ?_
    refine G.aload_nN (pc := 9) cx dX9_sailor_9 rfl 0 rfl ?_
    refine G.ifnonnullN (pc := 10) cx dX9_sailor_10 ?_
    refine G.ldc (pc := 13) cx dX9_sailor_13 (v := (-1000001)) wm_ct_X9_97 ?_
    refine G.goto (pc := 15) cx dX9_sailor_15 (tgt := 23) (by decide) ?_
    refine G.iret (pc := 23) cx rfl dX9_sailor_23 ?_ ?_ rfl
    · refine congrArg (fun x => some (Value.int x)) ?_
      (try clear hin9); (try clear cx); (try clear hN); simp [*]
    · rfl
set_option maxHeartbeats 4000000 in
set_option maxRecDepth 100000 in
theorem c_X9_item (l : Launch) (K : KT) (sz : Nat) (x : Nat) (z : Zt) (t : Zt) (h : Nat → Zt) (π : Nat → Nat) (f : Zt) (u : Zt) (g : Zt) (V : VW) (i : Int32) (q : Int32)  : Ct l K yX9_item cX9_item 4 (some .int) 5 [.ref x, .int i, .int q] (ww K x z t h π f u g V) sz (some (.int (if 0 ≤ i ∧ i ≤ 5 then cTellI z (i).toNatClampNeg q else -1000001))) (ww K x z t h π f u g V) sz 0 0 := by
  refine Ct.ofG (by decide) (Nat.le_of_ble_eq_true rfl) ?_
  intro p9 e9 s9 m9 a9 b9 t9 c9 cx hin9
  refine G.lv0 (lv2 := [(0, .ref x), (1, .int i), (2, .int q)]) rfl ?_
  by_cases hI : 0 ≤ i ∧ i ≤ 5
  · skip
    obtain ⟨j, hj, rfl⟩ := item_of hI
    have tj : (nI j).toNatClampNeg = j := nI_clamp (by omega)
    refine G.aload_n (pc := 0) cx dX9_item_0 rfl 0 rfl ?_
    refine G.getV (pc := 1) cx dX9_item_1 (T := TX9) 0 wm_fl_X9_10 inlX9 rfl (by decide) ww_x rfl ?_
    refine G.iload_n (pc := 4) cx dX9_item_4 rfl 1 rfl ?_
    refine G.cast (V' := (bw K (x + 1) z (ww K x z t h π f u g V))) (ww_b1 _).symm ?_
    refine G.callV0 (pc := 5) (rest := []) (st1 := [.ref (x + 1 + 19 + j)]) cx (c_X0_findItem l K sz (x + 1) z (ww K x z t h π f u g V) j (by omega)) ok_X0_findItem dX9_item_5 wm_ml_X9_103 rfl bw_b rfl rfl (Nat.le_of_ble_eq_true rfl) ⟨Nat.le_of_ble_eq_true rfl, Nat.le_of_ble_eq_true rfl⟩ rfl ?_
    refine G.cast (V' := (ww K x z t h π f u g V)) (ww_b1 _) ?_
    refine G.astore_n (pc := 8) cx dX9_item_8 rfl (by decide) rfl ?_
    refine G.aload_n (pc := 9) cx dX9_item_9 rfl 0 rfl ?_
    refine G.ifnonnull (pc := 10) cx dX9_item_10 (tgt := 18) (by decide) ?_
    refine G.aload_n (pc := 18) cx dX9_item_18 rfl 0 rfl ?_
    refine G.iload_n (pc := 19) cx dX9_item_19 rfl 3 rfl ?_
    refine G.cast (V' := (bw K (x + 1) z (ww K x z t h π f u g V))) (ww_b1 _).symm ?_
    refine G.callV0 (pc := 20) (rest := []) (st1 := [.int (cTellI z j q)]) cx (c_X3_tell l K sz (x + 1) z (ww K x z t h π f u g V) j q (by omega)) ok_X3_tell dX9_item_20 wm_ml_X9_107 rfl (bw_i (by omega)) rfl rfl (Nat.le_of_ble_eq_true rfl) ⟨Nat.le_of_ble_eq_true rfl, Nat.le_of_ble_eq_true rfl⟩ rfl ?_
    refine G.cast (V' := (ww K x z t h π f u g V)) (ww_b1 _) ?_
    refine G.iret (pc := 23) cx rfl dX9_item_23 ?_ ?_ rfl
    · refine congrArg (fun x => some (Value.int x)) ?_
      (try clear hin9); (try clear cx); simp [*]
    · rfl
  · skip
    refine G.aload_n (pc := 0) cx dX9_item_0 rfl 0 rfl ?_
    refine G.getV (pc := 1) cx dX9_item_1 (T := TX9) 0 wm_fl_X9_10 inlX9 rfl (by decide) ww_x rfl ?_
    refine G.iload_n (pc := 4) cx dX9_item_4 rfl 1 rfl ?_
    refine G.cast (V' := (bw K (x + 1) z (ww K x z t h π f u g V))) (ww_b1 _).symm ?_
    refine G.callV0 (pc := 5) (rest := []) (st1 := [.null]) cx (c_X0_findItemN l K sz (x + 1) z (ww K x z t h π f u g V) i (by assumption)) ok_X0_findItem dX9_item_5 wm_ml_X9_103 rfl bw_b rfl rfl (Nat.le_of_ble_eq_true rfl) ⟨Nat.le_of_ble_eq_true rfl, Nat.le_of_ble_eq_true rfl⟩ rfl ?_
    refine G.cast (V' := (ww K x z t h π f u g V)) (ww_b1 _) ?_
    refine G.astore_nN (pc := 8) cx dX9_item_8 rfl (by decide) rfl ?_
    refine G.aload_nN (pc := 9) cx dX9_item_9 rfl 0 rfl ?_
    refine G.ifnonnullN (pc := 10) cx dX9_item_10 ?_
    refine G.ldc (pc := 13) cx dX9_item_13 (v := (-1000001)) wm_ct_X9_97 ?_
    refine G.goto (pc := 15) cx dX9_item_15 (tgt := 23) (by decide) ?_
    refine G.iret (pc := 23) cx rfl dX9_item_23 ?_ ?_ rfl
    · refine congrArg (fun x => some (Value.int x)) ?_
      (try clear hin9); (try clear cx); simp [*]
    · rfl
set_option maxHeartbeats 4000000 in
set_option maxRecDepth 100000 in
theorem c_X9_why (l : Launch) (K : KT) (sz : Nat) (x : Nat) (z : Zt) (t : Zt) (h : Nat → Zt) (π : Nat → Nat) (f : Zt) (u : Zt) (g : Zt) (V : VW) (a : Int32) (i : Int32) (m : Int32) (N : Nat) (hN : z 194 = nI N) (h16 : N ≤ 16) : Ct l K yX9_why cX9_why 4 (some .int) 5 [.ref x, .int a, .int i, .int m] (ww K x z t h π f u g V) sz (some (.int (cWhyP z a i m))) (ww K x z t h π f u g V) sz 0 0 := by
  refine Ct.ofG (by decide) (Nat.le_of_ble_eq_true rfl) ?_
  intro p9 e9 s9 m9 a9 b9 t9 c9 cx hin9
  refine G.lv0 (lv2 := [(0, .ref x), (1, .int a), (2, .int i), (3, .int m)]) rfl ?_
  refine G.aload_n (pc := 0) cx dX9_why_0 rfl 0 rfl ?_
  refine G.getV (pc := 1) cx dX9_why_1 (T := TX9) 0 wm_fl_X9_10 inlX9 rfl (by decide) ww_x rfl ?_
  refine G.iload_n (pc := 4) cx dX9_why_4 rfl 1 rfl ?_
  refine G.iload_n (pc := 5) cx dX9_why_5 rfl 2 rfl ?_
  refine G.iload_n (pc := 6) cx dX9_why_6 rfl 3 rfl ?_
  refine G.cast (V' := (bw K (x + 1) z (ww K x z t h π f u g V))) (ww_b1 _).symm ?_
  refine G.callV0 (pc := 7) (rest := []) (st1 := [.int (cWhyP z a i m)]) cx (c_X0_reasonNotToSell l K sz (x + 1) z (ww K x z t h π f u g V) a i m N (by assumption) (by omega)) ok_X0_reasonNotToSell dX9_why_7 wm_ml_X9_118 rfl bw_b rfl rfl (Nat.le_of_ble_eq_true rfl) ⟨Nat.le_of_ble_eq_true rfl, Nat.le_of_ble_eq_true rfl⟩ rfl ?_
  refine G.cast (V' := (ww K x z t h π f u g V)) (ww_b1 _) ?_
  refine G.iret (pc := 10) cx rfl dX9_why_10 ?_ ?_ rfl
  · rfl
  · rfl
set_option maxHeartbeats 4000000 in
set_option maxRecDepth 100000 in
theorem c_X9_most (l : Launch) (K : KT) (sz : Nat) (x : Nat) (z : Zt) (t : Zt) (h : Nat → Zt) (π : Nat → Nat) (f : Zt) (u : Zt) (g : Zt) (V : VW) (a : Int32) (i : Int32) (N : Nat) (hN : z 194 = nI N) (h16 : N ≤ 16) : Ct l K yX9_most cX9_most 3 (some .int) 5 [.ref x, .int a, .int i] (ww K x z t h π f u g V) sz (some (.int (cMost z a i))) (ww K x z t h π f u g V) sz 0 0 := by
  refine Ct.ofG (by decide) (Nat.le_of_ble_eq_true rfl) ?_
  intro p9 e9 s9 m9 a9 b9 t9 c9 cx hin9
  refine G.lv0 (lv2 := [(0, .ref x), (1, .int a), (2, .int i)]) rfl ?_
  refine G.aload_n (pc := 0) cx dX9_most_0 rfl 0 rfl ?_
  refine G.getV (pc := 1) cx dX9_most_1 (T := TX9) 0 wm_fl_X9_10 inlX9 rfl (by decide) ww_x rfl ?_
  refine G.iload_n (pc := 4) cx dX9_most_4 rfl 1 rfl ?_
  refine G.iload_n (pc := 5) cx dX9_most_5 rfl 2 rfl ?_
  refine G.cast (V' := (bw K (x + 1) z (ww K x z t h π f u g V))) (ww_b1 _).symm ?_
  refine G.callV0 (pc := 6) (rest := []) (st1 := [.int (cMost z a i)]) cx (c_X0_couldBuy l K sz (x + 1) z (ww K x z t h π f u g V) a i N (by assumption) (by omega)) ok_X0_couldBuy dX9_most_6 wm_ml_X9_121 rfl bw_b rfl rfl (Nat.le_of_ble_eq_true rfl) ⟨Nat.le_of_ble_eq_true rfl, Nat.le_of_ble_eq_true rfl⟩ rfl ?_
  refine G.cast (V' := (ww K x z t h π f u g V)) (ww_b1 _) ?_
  refine G.iret (pc := 9) cx rfl dX9_most_9 ?_ ?_ rfl
  · rfl
  · rfl
set_option maxHeartbeats 4000000 in
set_option maxRecDepth 100000 in
theorem c_X9_clearIn (l : Launch) (K : KT) (sz : Nat) (x : Nat) (z : Zt) (t : Zt) (h : Nat → Zt) (π : Nat → Nat) (f : Zt) (u : Zt) (g : Zt) (V : VW) (a : Int32) (N : Nat) (hN : z 194 = nI N) (h16 : N ≤ 16) : Ct l K yX9_clearIn cX9_clearIn 2 (some .int) 5 [.ref x, .int a] (ww K x z t h π f u g V) sz (some (.int (cClearIn z a))) (ww K x z t h π f u g V) sz 0 0 := by
  refine Ct.ofG (by decide) (Nat.le_of_ble_eq_true rfl) ?_
  intro p9 e9 s9 m9 a9 b9 t9 c9 cx hin9
  refine G.lv0 (lv2 := [(0, .ref x), (1, .int a)]) rfl ?_
  refine G.aload_n (pc := 0) cx dX9_clearIn_0 rfl 0 rfl ?_
  refine G.getV (pc := 1) cx dX9_clearIn_1 (T := TX9) 0 wm_fl_X9_10 inlX9 rfl (by decide) ww_x rfl ?_
  refine G.iload_n (pc := 4) cx dX9_clearIn_4 rfl 1 rfl ?_
  refine G.cast (V' := (bw K (x + 1) z (ww K x z t h π f u g V))) (ww_b1 _).symm ?_
  refine G.callV0 (pc := 5) (rest := []) (st1 := [.int (cClearIn z a)]) cx (c_X0_daysUntilClear l K sz (x + 1) z (ww K x z t h π f u g V) a N (by assumption) (by omega)) ok_X0_daysUntilClear dX9_clearIn_5 wm_ml_X9_124 rfl bw_b rfl rfl (Nat.le_of_ble_eq_true rfl) ⟨Nat.le_of_ble_eq_true rfl, Nat.le_of_ble_eq_true rfl⟩ rfl ?_
  refine G.cast (V' := (ww K x z t h π f u g V)) (ww_b1 _) ?_
  refine G.iret (pc := 8) cx rfl dX9_clearIn_8 ?_ ?_ rfl
  · rfl
  · rfl
set_option maxHeartbeats 4000000 in
set_option maxRecDepth 100000 in
theorem c_X9_ifPaidOff (l : Launch) (K : KT) (sz : Nat) (x : Nat) (z : Zt) (t : Zt) (h : Nat → Zt) (π : Nat → Nat) (f : Zt) (u : Zt) (g : Zt) (V : VW) (q : Int32) (N : Nat) (hN : z 194 = nI N) (h16 : N ≤ 16) : Ct l K yX9_ifPaidOff cX9_ifPaidOff 2 (some .int) 5 [.ref x, .int q] (ww K x z t h π f u g V) sz (some (.int (cIfPO z N q))) (ww K x z t h π f u g V) sz 0 0 := by
  refine Ct.ofG (by decide) (Nat.le_of_ble_eq_true rfl) ?_
  intro p9 e9 s9 m9 a9 b9 t9 c9 cx hin9
  refine G.lv0 (lv2 := [(0, .ref x), (1, .int q)]) rfl ?_
  refine G.aload_n (pc := 0) cx dX9_ifPaidOff_0 rfl 0 rfl ?_
  refine G.getV (pc := 1) cx dX9_ifPaidOff_1 (T := TX9) 0 wm_fl_X9_10 inlX9 rfl (by decide) ww_x rfl ?_
  refine G.iload_n (pc := 4) cx dX9_ifPaidOff_4 rfl 1 rfl ?_
  refine G.cast (V' := (bw K (x + 1) z (ww K x z t h π f u g V))) (ww_b1 _).symm ?_
  refine G.callV0 (pc := 5) (rest := []) (st1 := [.int (cIfPO z N q)]) cx (c_X0_tellPayingOff l K sz (x + 1) z (ww K x z t h π f u g V) q N (by assumption) (by omega)) ok_X0_tellPayingOff dX9_ifPaidOff_5 wm_ml_X9_127 rfl bw_b rfl rfl (Nat.le_of_ble_eq_true rfl) ⟨Nat.le_of_ble_eq_true rfl, Nat.le_of_ble_eq_true rfl⟩ rfl ?_
  refine G.cast (V' := (ww K x z t h π f u g V)) (ww_b1 _) ?_
  refine G.iret (pc := 8) cx rfl dX9_ifPaidOff_8 ?_ ?_ rfl
  · rfl
  · rfl
set_option maxHeartbeats 4000000 in
set_option maxRecDepth 100000 in
theorem c_X9_poorest (l : Launch) (K : KT) (sz : Nat) (x : Nat) (z : Zt) (t : Zt) (h : Nat → Zt) (π : Nat → Nat) (f : Zt) (u : Zt) (g : Zt) (V : VW) (p : Int32) (N : Nat) (hN : z 194 = nI N) (h16 : N ≤ 16) : Ct l K yX9_poorest cX9_poorest 2 (some .int) 5 [.ref x, .int p] (ww K x z t h π f u g V) sz (some (.int (cPoorest z N p))) (ww K x z t h π f u g V) sz 0 0 := by
  refine Ct.ofG (by decide) (Nat.le_of_ble_eq_true rfl) ?_
  intro p9 e9 s9 m9 a9 b9 t9 c9 cx hin9
  refine G.lv0 (lv2 := [(0, .ref x), (1, .int p)]) rfl ?_
  refine G.aload_n (pc := 0) cx dX9_poorest_0 rfl 0 rfl ?_
  refine G.getV (pc := 1) cx dX9_poorest_1 (T := TX9) 0 wm_fl_X9_10 inlX9 rfl (by decide) ww_x rfl ?_
  refine G.iload_n (pc := 4) cx dX9_poorest_4 rfl 1 rfl ?_
  refine G.cast (V' := (bw K (x + 1) z (ww K x z t h π f u g V))) (ww_b1 _).symm ?_
  refine G.callV0 (pc := 5) (rest := []) (st1 := [.int (cPoorest z N p)]) cx (c_X0_sailorByBalance l K sz (x + 1) z (ww K x z t h π f u g V) p N (by assumption) (by omega)) ok_X0_sailorByBalance dX9_poorest_5 wm_ml_X9_130 rfl bw_b rfl rfl (Nat.le_of_ble_eq_true rfl) ⟨Nat.le_of_ble_eq_true rfl, Nat.le_of_ble_eq_true rfl⟩ rfl ?_
  refine G.cast (V' := (ww K x z t h π f u g V)) (ww_b1 _) ?_
  refine G.iret (pc := 8) cx rfl dX9_poorest_8 ?_ ?_ rfl
  · rfl
  · rfl
set_option maxHeartbeats 4000000 in
set_option maxRecDepth 100000 in
theorem c_X9_undo (l : Launch) (K : KT) (sz : Nat) (x : Nat) (z : Zt) (t : Zt) (h : Nat → Zt) (π : Nat → Nat) (f : Zt) (u : Zt) (g : Zt) (V : VW) (mm : Nat) (hm : g 0 = nI mm) (hm4 : mm ≤ 4) (hπ : ∀ k, k < 4 → π k < 4) (hz : h (π 0) 191 = 0 ∨ h (π 0) 191 = 1) : Ct l K yX9_undo cX9_undo 1 (some .int) 4 [.ref x] (ww K x z t h π f u g V) sz (some (.int (if mm = 0 then -1000002 else nI (mm - 1)))) (ww K x (if mm = 0 then z else h (π 0)) t h (if mm = 0 then π else rotL π) f u (if mm = 0 then g else upd g 0 (nI (mm - 1))) V) sz 0 0 := by
  refine Ct.ofG (by decide) (Nat.le_of_ble_eq_true rfl) ?_
  intro p9 e9 s9 m9 a9 b9 t9 c9 cx hin9
  refine G.lv0 (lv2 := [(0, .ref x)]) rfl ?_
  refine G.aload_n (pc := 0) cx dX9_undo_0 rfl 0 rfl ?_
  refine G.getV (pc := 1) cx dX9_undo_1 (T := TX9) 2 wm_fl_X9_22 inlX9 rfl (by decide) ww_x rfl ?_
  refine G.aload_n (pc := 4) cx dX9_undo_4 rfl 0 rfl ?_
  refine G.getV (pc := 5) cx dX9_undo_5 (T := TX9) 0 wm_fl_X9_10 inlX9 rfl (by decide) ww_x rfl ?_
  refine G.callV0 (pc := 8) (rest := []) (st1 := [.int (if mm = 0 then -1000002 else nI (mm - 1))]) cx (c_X2_restoreInto l K sz x z t h π f u g V mm (by assumption) (by omega) (by assumption) (by assumption)) ok_X2_restoreInto dX9_undo_8 wm_ml_X9_144 rfl ww_h rfl rfl (Nat.le_of_ble_eq_true rfl) ⟨Nat.le_of_ble_eq_true rfl, Nat.le_of_ble_eq_true rfl⟩ rfl ?_
  refine G.iret (pc := 11) cx rfl dX9_undo_11 ?_ ?_ rfl
  · rfl
  · rfl
