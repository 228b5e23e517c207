set_option maxHeartbeats 4000000 in
set_option maxRecDepth 100000 in
theorem c_X2_record (l : Launch) (K : KT) (sz : Nat) (x : Nat) (z : Zt) (t : Zt) (h : Nat → Zt) (π : Nat → Nat) (f : Zt) (u : Zt) (g : Zt) (V : VW) (m : Nat) (hm : g 0 = nI m) (hm4 : m ≤ 4) (hπ : ∀ k, k < 4 → π k < 4) (hz : z 191 = 0 ∨ z 191 = 1) : Ct l K yX2_record cX2_record 5 none 3 [.ref (x + 63), .ref (x + 1)] (ww K x z t h π f u g V) sz none (ww K x z t (hset h (π 3) z) (rotR π) f u (if m < 4 then upd g 0 (nI (m + 1)) else g) V) sz 0 0 := by
  refine Ct.ofG (by decide) (Nat.le_of_ble_eq_true rfl) ?_
  intro p9 e9 s9 m9 a9 b9 t9 c9 cx hin9
  refine G.lv0 (lv2 := [(0, .ref (x + 63)), (1, .ref (x + 1))]) rfl ?_
  have hp0 := hπ 0 (by decide)
  have hp3 := hπ 3 (by decide)
  have hp1 := hπ 1 (by decide)
  have hp2 := hπ 2 (by decide)
  refine G.aload_n (pc := 0) cx dX2_record_0 rfl 0 rfl ?_
  refine G.getV (pc := 1) cx dX2_record_1 (T := TX2) 0 wm_fl_X2_11 inlX2 rfl (by decide) ww_h rfl ?_
  refine G.alenV (pc := 4) cx dX2_record_4 3 rfl ww_ha (v := 4) rfl ?_
  refine G.iconst (pc := 5) cx dX2_record_5 (v := 1) (by decide) ?_
  refine G.isubV (pc := 6) cx dX2_record_6 (v := 3) (by decide) ?_
  refine G.istore_n (pc := 7) cx dX2_record_7 rfl (by decide) rfl ?_
  refine G.iload_n (pc := 8) cx dX2_record_8 rfl 0 rfl ?_
  refine G.if_geN (pc := 9) cx 3 (by omega) dX2_record_9 (tgt := 13) (by decide) ?_
  refine G.aload_n (pc := 13) cx dX2_record_13 rfl 1 rfl ?_
  refine G.getV (pc := 14) cx dX2_record_14 (T := TX2) 0 wm_fl_X2_11 inlX2 rfl (by decide) ww_h rfl ?_
  refine G.iload_n (pc := 17) cx dX2_record_17 rfl 0 rfl ?_
  refine G.aaldV (pc := 18) cx dX2_record_18 3 rfl ww_ha (j := 3) rfl (by omega) (by decide) rfl ?_
  refine G.astore_n (pc := 19) cx dX2_record_19 rfl (by decide) rfl ?_
  refine G.iload_n (pc := 20) cx dX2_record_20 rfl 1 rfl ?_
  refine G.istore (pc := 21) cx dX2_record_21 (by decide) rfl ?_
  refine G.iload (pc := 23) cx dX2_record_23 0 rfl ?_
  refine G.if_leN (pc := 25) cx 3 (by omega) dX2_record_25 (tgt := 50) (by decide) (fun h9 => by omega) (fun _ => ?_)
  refine G.aload_n (pc := 28) cx dX2_record_28 rfl 3 rfl ?_
  refine G.getV (pc := 29) cx dX2_record_29 (T := TX2) 0 wm_fl_X2_11 inlX2 rfl (by decide) ww_h rfl ?_
  refine G.iload (pc := 32) cx dX2_record_32 0 rfl ?_
  refine G.aload_n (pc := 34) cx dX2_record_34 rfl 3 rfl ?_
  refine G.getV (pc := 35) cx dX2_record_35 (T := TX2) 0 wm_fl_X2_11 inlX2 rfl (by decide) ww_h rfl ?_
  refine G.iload (pc := 38) cx dX2_record_38 0 rfl ?_
  refine G.iconst (pc := 40) cx dX2_record_40 (v := 1) (by decide) ?_
  refine G.isubV (pc := 41) cx dX2_record_41 (v := 2) (by decide) ?_
  refine G.aaldV (pc := 42) cx dX2_record_42 3 rfl ww_ha (j := 2) rfl (by omega) (by decide) rfl ?_
  refine G.aastH (pc := 43) cx dX2_record_43 3 (π 2) rfl (by omega) (by first | assumption | omega) ?_
  refine G.iinc (pc := 44) cx dX2_record_44 (v := 2) (k := 0) rfl (by decide) (by decide) rfl ?_
  refine G.goto (pc := 47) cx dX2_record_47 (tgt := 23) (by decide) ?_
  refine G.iload (pc := 23) cx dX2_record_23 0 rfl ?_
  refine G.if_leN (pc := 25) cx 2 (by omega) dX2_record_25 (tgt := 50) (by decide) (fun h9 => by omega) (fun _ => ?_)
  refine G.aload_n (pc := 28) cx dX2_record_28 rfl 3 rfl ?_
  refine G.getV (pc := 29) cx dX2_record_29 (T := TX2) 0 wm_fl_X2_11 inlX2 rfl (by decide) ww_h rfl ?_
  refine G.iload (pc := 32) cx dX2_record_32 0 rfl ?_
  refine G.aload_n (pc := 34) cx dX2_record_34 rfl 3 rfl ?_
  refine G.getV (pc := 35) cx dX2_record_35 (T := TX2) 0 wm_fl_X2_11 inlX2 rfl (by decide) ww_h rfl ?_
  refine G.iload (pc := 38) cx dX2_record_38 0 rfl ?_
  refine G.iconst (pc := 40) cx dX2_record_40 (v := 1) (by decide) ?_
  refine G.isubV (pc := 41) cx dX2_record_41 (v := 1) (by decide) ?_
  refine G.aaldV (pc := 42) cx dX2_record_42 3 rfl ww_ha (j := 1) rfl (by omega) (by decide) rfl ?_
  refine G.aastH (pc := 43) cx dX2_record_43 2 (π 1) rfl (by omega) (by first | assumption | omega) ?_
  refine G.iinc (pc := 44) cx dX2_record_44 (v := 1) (k := 0) rfl (by decide) (by decide) rfl ?_
  refine G.goto (pc := 47) cx dX2_record_47 (tgt := 23) (by decide) ?_
  refine G.iload (pc := 23) cx dX2_record_23 0 rfl ?_
  refine G.if_leN (pc := 25) cx 1 (by omega) dX2_record_25 (tgt := 50) (by decide) (fun h9 => by omega) (fun _ => ?_)
  refine G.aload_n (pc := 28) cx dX2_record_28 rfl 3 rfl ?_
  refine G.getV (pc := 29) cx dX2_record_29 (T := TX2) 0 wm_fl_X2_11 inlX2 rfl (by decide) ww_h rfl ?_
  refine G.iload (pc := 32) cx dX2_record_32 0 rfl ?_
  refine G.aload_n (pc := 34) cx dX2_record_34 rfl 3 rfl ?_
  refine G.getV (pc := 35) cx dX2_record_35 (T := TX2) 0 wm_fl_X2_11 inlX2 rfl (by decide) ww_h rfl ?_
  refine G.iload (pc := 38) cx dX2_record_38 0 rfl ?_
  refine G.iconst (pc := 40) cx dX2_record_40 (v := 1) (by decide) ?_
  refine G.isubV (pc := 41) cx dX2_record_41 (v := 0) (by decide) ?_
  refine G.aaldV (pc := 42) cx dX2_record_42 3 rfl ww_ha (j := 0) rfl (by omega) (by decide) rfl ?_
  refine G.aastH (pc := 43) cx dX2_record_43 1 (π 0) rfl (by omega) (by first | assumption | omega) ?_
  refine G.iinc (pc := 44) cx dX2_record_44 (v := 0) (k := 0) rfl (by decide) (by decide) rfl ?_
  refine G.goto (pc := 47) cx dX2_record_47 (tgt := 23) (by decide) ?_
  refine G.iload (pc := 23) cx dX2_record_23 0 rfl ?_
  refine G.if_leN (pc := 25) cx 0 (by omega) dX2_record_25 (tgt := 50) (by decide) (fun _ => ?_) (fun h9 => by omega)
  refine G.aload_n (pc := 50) cx dX2_record_50 rfl 3 rfl ?_
  refine G.getV (pc := 51) cx dX2_record_51 (T := TX2) 0 wm_fl_X2_11 inlX2 rfl (by decide) ww_h rfl ?_
  refine G.iconst (pc := 54) cx dX2_record_54 (v := 0) (by decide) ?_
  refine G.aload_n (pc := 55) cx dX2_record_55 rfl 1 rfl ?_
  refine G.aastH (pc := 56) cx dX2_record_56 0 (π 3) rfl (by omega) (by first | assumption | omega) ?_
  refine G.aload_n (pc := 57) cx dX2_record_57 rfl 1 rfl ?_
  refine G.aload_n (pc := 58) cx dX2_record_58 rfl 4 rfl ?_
  refine G.cast (V' := (bw K (x + 65 + 31 * (π 3)) (h (π 3)) (ww K x z t h (piset (piset (piset (piset π 3 (π 2)) 2 (π 1)) 1 (π 0)) 0 (π 3)) f u g V))) (ww_bh_self (by first | assumption | omega)).symm ?_
  refine G.callV0 (pc := 59) (rest := []) (st1 := []) cx (c_X0_copyFrom l K sz (x + 65 + 31 * (π 3)) (h (π 3)) (ww K x z t h (piset (piset (piset (piset π 3 (π 2)) 2 (π 1)) 1 (π 0)) 0 (π 3)) f u g V) (x + 1) z (by first | exact hA | (unfold apt; omega)) (by first | exact hO | exact ww_b1 _ | exact ww_b2 _ | exact ww_bh_self (by assumption)) (by exact hz)) ok_X0_copyFrom dX2_record_59 wm_ml_X2_18 rfl bw_b rfl rfl (Nat.le_of_ble_eq_true rfl) ⟨Nat.le_of_ble_eq_true rfl, Nat.le_of_ble_eq_true rfl⟩ rfl ?_
  refine G.cast (V' := (ww K x z t (hset h (π 3) z) (piset (piset (piset (piset π 3 (π 2)) 2 (π 1)) 1 (π 0)) 0 (π 3)) f u g V)) (ww_bh _ (by first | assumption | omega)) ?_
  refine G.aload_n (pc := 62) cx dX2_record_62 rfl 3 rfl ?_
  refine G.getV (pc := 63) cx dX2_record_63 (T := TX2) 1 wm_fl_X2_22 inlX2 rfl (by decide) ww_h (congrArg (fun x => some (Value.int x)) (hm)) ?_
  refine G.iconst (pc := 66) cx dX2_record_66 (v := 4) (by decide) ?_
  refine G.icmp_geN (pc := 67) cx m 4 (by omega) (by omega) dX2_record_67 (tgt := 80) (by decide) (fun cq67 => ?_) (fun cq67 => ?_)
  · skip
    refine G.vret (pc := 80) cx rfl dX2_record_80 rfl ?_ rfl
    · show _ = _
      (try clear hin9); (try clear cx); first | (rw [if_pos (by omega)]; rfl) | (rw [if_neg (by omega)]; rfl)
  · skip
    refine G.aload_n (pc := 70) cx dX2_record_70 rfl 3 rfl ?_
    refine G.dup (pc := 71) cx dX2_record_71 rfl ?_
    refine G.getV (pc := 72) cx dX2_record_72 (T := TX2) 1 wm_fl_X2_22 inlX2 rfl (by decide) ww_h (congrArg (fun x => some (Value.int x)) (hm)) ?_
    refine G.iconst (pc := 75) cx dX2_record_75 (v := 1) (by decide) ?_
    refine G.iaddN (pc := 76) cx dX2_record_76 m 1 ?_
    refine G.putKe (pc := 77) cx dX2_record_77 wm_fl_X2_22 ?_
    refine G.vret (pc := 80) cx rfl dX2_record_80 rfl ?_ rfl
    · show _ = _
      (try clear hin9); (try clear cx); first | (rw [if_pos (by omega)]; rfl) | (rw [if_neg (by omega)]; rfl)
set_option maxHeartbeats 4000000 in
set_option maxRecDepth 100000 in
theorem c_X2_restoreInto (l : Launch) (K : KT) (sz : Nat) (x : Nat) (z : Zt) (t : Zt) (h : Nat → Zt) (π : Nat → Nat) (f : Zt) (u : Zt) (g : Zt) (V : VW) (m : Nat) (hm : g 0 = nI m) (hm4 : m ≤ 4) (hπ : ∀ k, k < 4 → π k < 4) (hz : h (π 0) 191 = 0 ∨ h (π 0) 191 = 1) : Ct l K yX2_restoreInto cX2_restoreInto 5 (some .int) 3 [.ref (x + 63), .ref (x + 1)] (ww K x z t h π f u g V) sz (some (.int (if m = 0 then -1000002 else nI (m - 1)))) (ww K x (if m = 0 then z else h (π 0)) t h (if m = 0 then π else rotL π) f u (if m = 0 then g else upd g 0 (nI (m - 1))) V) sz 0 0 := by
  refine Ct.ofG (by decide) (Nat.le_of_ble_eq_true rfl) ?_
  intro p9 e9 s9 m9 a9 b9 t9 c9 cx hin9
  refine G.lv0 (lv2 := [(0, .ref (x + 63)), (1, .ref (x + 1))]) rfl ?_
  have hp0 := hπ 0 (by decide)
  have hp3 := hπ 3 (by decide)
  have hp1 := hπ 1 (by decide)
  have hp2 := hπ 2 (by decide)
  refine G.aload_n (pc := 0) cx dX2_restoreInto_0 rfl 0 rfl ?_
  refine G.getV (pc := 1) cx dX2_restoreInto_1 (T := TX2) 0 wm_fl_X2_11 inlX2 rfl (by decide) ww_h rfl ?_
  refine G.alenV (pc := 4) cx dX2_restoreInto_4 3 rfl ww_ha (v := 4) rfl ?_
  refine G.iconst (pc := 5) cx dX2_restoreInto_5 (v := 1) (by decide) ?_
  refine G.isubV (pc := 6) cx dX2_restoreInto_6 (v := 3) (by decide) ?_
  refine G.istore_n (pc := 7) cx dX2_restoreInto_7 rfl (by decide) rfl ?_
  refine G.aload_n (pc := 8) cx dX2_restoreInto_8 rfl 1 rfl ?_
  refine G.getV (pc := 9) cx dX2_restoreInto_9 (T := TX2) 1 wm_fl_X2_22 inlX2 rfl (by decide) ww_h (congrArg (fun x => some (Value.int x)) (hm)) ?_
  refine G.if_leN (pc := 12) cx m (by omega) dX2_restoreInto_12 (tgt := 19) (by decide) (fun cq12 => ?_) (fun cq12 => ?_)
  · skip
    refine G.ldc (pc := 19) cx dX2_restoreInto_19 (v := (-1000002)) wm_ct_X2_26 ?_
    refine G.iret (pc := 21) cx rfl dX2_restoreInto_21 ?_ ?_ rfl
    · refine congrArg (fun x => some (Value.int x)) ?_
      (try clear hin9); (try clear cx); first | exact if_pos (by omega) | exact if_neg (by omega)
    · show _ = _
      (try clear hin9); (try clear cx); first | (rw [if_pos (by omega), if_pos (by omega), if_pos (by omega)]; done) | (rw [if_neg (by omega), if_neg (by omega), if_neg (by omega)]; rfl)
  · skip
    refine G.iload_n (pc := 15) cx dX2_restoreInto_15 rfl 0 rfl ?_
    refine G.if_geN (pc := 16) cx 3 (by omega) dX2_restoreInto_16 (tgt := 22) (by decide) ?_
    refine G.aload_n (pc := 22) cx dX2_restoreInto_22 rfl 1 rfl ?_
    refine G.getV (pc := 23) cx dX2_restoreInto_23 (T := TX2) 0 wm_fl_X2_11 inlX2 rfl (by decide) ww_h rfl ?_
    refine G.iconst (pc := 26) cx dX2_restoreInto_26 (v := 0) (by decide) ?_
    refine G.aaldV (pc := 27) cx dX2_restoreInto_27 3 rfl ww_ha (j := 0) rfl (by omega) (by decide) rfl ?_
    refine G.astore_n (pc := 28) cx dX2_restoreInto_28 rfl (by decide) rfl ?_
    refine G.iconst (pc := 29) cx dX2_restoreInto_29 (v := 0) (by decide) ?_
    refine G.istore (pc := 30) cx dX2_restoreInto_30 (by decide) rfl ?_
    refine G.iload (pc := 32) cx dX2_restoreInto_32 0 rfl ?_
    refine G.iload_n (pc := 34) cx dX2_restoreInto_34 rfl 2 rfl ?_
    refine G.icmp_geN (pc := 35) cx 0 3 (by omega) (by omega) dX2_restoreInto_35 (tgt := 60) (by decide) (fun h9 => by omega) (fun _ => ?_)
    refine G.aload_n (pc := 38) cx dX2_restoreInto_38 rfl 3 rfl ?_
    refine G.getV (pc := 39) cx dX2_restoreInto_39 (T := TX2) 0 wm_fl_X2_11 inlX2 rfl (by decide) ww_h rfl ?_
    refine G.iload (pc := 42) cx dX2_restoreInto_42 0 rfl ?_
    refine G.aload_n (pc := 44) cx dX2_restoreInto_44 rfl 3 rfl ?_
    refine G.getV (pc := 45) cx dX2_restoreInto_45 (T := TX2) 0 wm_fl_X2_11 inlX2 rfl (by decide) ww_h rfl ?_
    refine G.iload (pc := 48) cx dX2_restoreInto_48 0 rfl ?_
    refine G.iconst (pc := 50) cx dX2_restoreInto_50 (v := 1) (by decide) ?_
    refine G.iaddV (pc := 51) cx dX2_restoreInto_51 (v := 1) (by decide) ?_
    refine G.aaldV (pc := 52) cx dX2_restoreInto_52 3 rfl ww_ha (j := 1) rfl (by omega) (by decide) rfl ?_
    refine G.aastH (pc := 53) cx dX2_restoreInto_53 0 (π 1) rfl (by omega) (by first | assumption | omega) ?_
    refine G.iinc (pc := 54) cx dX2_restoreInto_54 (v := 1) (k := 0) rfl (by decide) (by decide) rfl ?_
    refine G.goto (pc := 57) cx dX2_restoreInto_57 (tgt := 32) (by decide) ?_
    refine G.iload (pc := 32) cx dX2_restoreInto_32 0 rfl ?_
    refine G.iload_n (pc := 34) cx dX2_restoreInto_34 rfl 2 rfl ?_
    refine G.icmp_geN (pc := 35) cx 1 3 (by omega) (by omega) dX2_restoreInto_35 (tgt := 60) (by decide) (fun h9 => by omega) (fun _ => ?_)
    refine G.aload_n (pc := 38) cx dX2_restoreInto_38 rfl 3 rfl ?_
    refine G.getV (pc := 39) cx dX2_restoreInto_39 (T := TX2) 0 wm_fl_X2_11 inlX2 rfl (by decide) ww_h rfl ?_
    refine G.iload (pc := 42) cx dX2_restoreInto_42 0 rfl ?_
    refine G.aload_n (pc := 44) cx dX2_restoreInto_44 rfl 3 rfl ?_
    refine G.getV (pc := 45) cx dX2_restoreInto_45 (T := TX2) 0 wm_fl_X2_11 inlX2 rfl (by decide) ww_h rfl ?_
    refine G.iload (pc := 48) cx dX2_restoreInto_48 0 rfl ?_
    refine G.iconst (pc := 50) cx dX2_restoreInto_50 (v := 1) (by decide) ?_
    refine G.iaddV (pc := 51) cx dX2_restoreInto_51 (v := 2) (by decide) ?_
    refine G.aaldV (pc := 52) cx dX2_restoreInto_52 3 rfl ww_ha (j := 2) rfl (by omega) (by decide) rfl ?_
    refine G.aastH (pc := 53) cx dX2_restoreInto_53 1 (π 2) rfl (by omega) (by first | assumption | omega) ?_
    refine G.iinc (pc := 54) cx dX2_restoreInto_54 (v := 2) (k := 0) rfl (by decide) (by decide) rfl ?_
    refine G.goto (pc := 57) cx dX2_restoreInto_57 (tgt := 32) (by decide) ?_
    refine G.iload (pc := 32) cx dX2_restoreInto_32 0 rfl ?_
    refine G.iload_n (pc := 34) cx dX2_restoreInto_34 rfl 2 rfl ?_
    refine G.icmp_geN (pc := 35) cx 2 3 (by omega) (by omega) dX2_restoreInto_35 (tgt := 60) (by decide) (fun h9 => by omega) (fun _ => ?_)
    refine G.aload_n (pc := 38) cx dX2_restoreInto_38 rfl 3 rfl ?_
    refine G.getV (pc := 39) cx dX2_restoreInto_39 (T := TX2) 0 wm_fl_X2_11 inlX2 rfl (by decide) ww_h rfl ?_
    refine G.iload (pc := 42) cx dX2_restoreInto_42 0 rfl ?_
    refine G.aload_n (pc := 44) cx dX2_restoreInto_44 rfl 3 rfl ?_
    refine G.getV (pc := 45) cx dX2_restoreInto_45 (T := TX2) 0 wm_fl_X2_11 inlX2 rfl (by decide) ww_h rfl ?_
    refine G.iload (pc := 48) cx dX2_restoreInto_48 0 rfl ?_
    refine G.iconst (pc := 50) cx dX2_restoreInto_50 (v := 1) (by decide) ?_
    refine G.iaddV (pc := 51) cx dX2_restoreInto_51 (v := 3) (by decide) ?_
    refine G.aaldV (pc := 52) cx dX2_restoreInto_52 3 rfl ww_ha (j := 3) rfl (by omega) (by decide) rfl ?_
    refine G.aastH (pc := 53) cx dX2_restoreInto_53 2 (π 3) rfl (by omega) (by first | assumption | omega) ?_
    refine G.iinc (pc := 54) cx dX2_restoreInto_54 (v := 3) (k := 0) rfl (by decide) (by decide) rfl ?_
    refine G.goto (pc := 57) cx dX2_restoreInto_57 (tgt := 32) (by decide) ?_
    refine G.iload (pc := 32) cx dX2_restoreInto_32 0 rfl ?_
    refine G.iload_n (pc := 34) cx dX2_restoreInto_34 rfl 2 rfl ?_
    refine G.icmp_geN (pc := 35) cx 3 3 (by omega) (by omega) dX2_restoreInto_35 (tgt := 60) (by decide) (fun _ => ?_) (fun h9 => by omega)
    refine G.aload_n (pc := 60) cx dX2_restoreInto_60 rfl 3 rfl ?_
    refine G.getV (pc := 61) cx dX2_restoreInto_61 (T := TX2) 0 wm_fl_X2_11 inlX2 rfl (by decide) ww_h rfl ?_
    refine G.iload_n (pc := 64) cx dX2_restoreInto_64 rfl 2 rfl ?_
    refine G.aload_n (pc := 65) cx dX2_restoreInto_65 rfl 1 rfl ?_
    refine G.aastH (pc := 66) cx dX2_restoreInto_66 3 (π 0) rfl (by omega) (by first | assumption | omega) ?_
    refine G.aload_n (pc := 67) cx dX2_restoreInto_67 rfl 4 rfl ?_
    refine G.aload_n (pc := 68) cx dX2_restoreInto_68 rfl 1 rfl ?_
    refine G.cast (V' := (bw K (x + 1) z (ww K x z t h (piset (piset (piset (piset π 0 (π 1)) 1 (π 2)) 2 (π 3)) 3 (π 0)) f u g V))) (ww_b1 _).symm ?_
    refine G.callV0 (pc := 69) (rest := []) (st1 := []) cx (c_X0_copyFrom l K sz (x + 1) z (ww K x z t h (piset (piset (piset (piset π 0 (π 1)) 1 (π 2)) 2 (π 3)) 3 (π 0)) f u g V) (x + 65 + 31 * (π 0)) (h (π 0)) (by first | exact hA | (unfold apt; omega)) (by first | exact hO | exact ww_b1 _ | exact ww_b2 _ | exact ww_bh_self (by assumption)) (by exact hz)) ok_X0_copyFrom dX2_restoreInto_69 wm_ml_X2_18 rfl bw_b rfl rfl (Nat.le_of_ble_eq_true rfl) ⟨Nat.le_of_ble_eq_true rfl, Nat.le_of_ble_eq_true rfl⟩ rfl ?_
    refine G.cast (V' := (ww K x (h (π 0)) t h (piset (piset (piset (piset π 0 (π 1)) 1 (π 2)) 2 (π 3)) 3 (π 0)) f u g V)) (ww_b1 _) ?_
    refine G.aload_n (pc := 72) cx dX2_restoreInto_72 rfl 3 rfl ?_
    refine G.dup (pc := 73) cx dX2_restoreInto_73 rfl ?_
    refine G.getV (pc := 74) cx dX2_restoreInto_74 (T := TX2) 1 wm_fl_X2_22 inlX2 rfl (by decide) ww_h (congrArg (fun x => some (Value.int x)) (hm)) ?_
    refine G.iconst (pc := 77) cx dX2_restoreInto_77 (v := 1) (by decide) ?_
    refine G.isubN (pc := 78) cx dX2_restoreInto_78 m 1 (by omega) ?_
    refine G.putKe (pc := 79) cx dX2_restoreInto_79 wm_fl_X2_22 ?_
    refine G.aload_n (pc := 82) cx dX2_restoreInto_82 rfl 3 rfl ?_
    refine G.getV (pc := 83) cx dX2_restoreInto_83 (T := TX2) 1 wm_fl_X2_22 inlX2 rfl (by decide) ww_h (congrArg (fun x => some (Value.int x)) (upd_s g 0 (nI (m - 1)))) ?_
    refine G.iret (pc := 86) cx rfl dX2_restoreInto_86 ?_ ?_ rfl
    · refine congrArg (fun x => some (Value.int x)) ?_
      (try clear hin9); (try clear cx); first | exact if_pos (by omega) | exact if_neg (by omega)
    · show _ = _
      (try clear hin9); (try clear cx); first | (rw [if_pos (by omega), if_pos (by omega), if_pos (by omega)]; done) | (rw [if_neg (by omega), if_neg (by omega), if_neg (by omega)]; rfl)
