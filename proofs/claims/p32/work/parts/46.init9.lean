theorem bw_vset {K : KT} {b a : Nat} {z : Zt} {V : VW} {y : va_E} (h : a < b ∨ b + 31 ≤ a) : vset (bw K b z V) a y = bw K b z (vset V a y) := by
  funext q; simp only [vset]
  by_cases h1 : q = a
  · rw [if_pos h1, bw_out (by omega), h1, vset_self]
  · rw [if_neg h1]; unfold bw
    by_cases h2 : b ≤ q ∧ q < b + 31
    · rw [if_pos h2, if_pos h2]
    · rw [if_neg h2, if_neg h2, vset_ne _ _ h1]
theorem hp_vset {K : KT} {h a : Nat} {V : VW} {y : va_E} (g : a < h ∨ h + 126 ≤ a) : vset (hp K h V 4) a y = hp K h (vset V a y) 4 := by
  funext q; simp only [vset]
  by_cases h1 : q = a
  · rw [if_pos h1]; unfold hp; rw [if_neg (by omega), if_neg (by omega), if_neg (by omega), h1, vset_self]
  · rw [if_neg h1]; unfold hp
    by_cases h2 : h + 2 ≤ q ∧ q < h + 2 + 31 * 4
    · rw [if_pos h2, if_pos h2]
    by_cases h3 : q = h + 1
    · rw [if_neg h2, if_neg h2, if_pos h3, if_pos h3]
    by_cases h4 : q = h
    · rw [if_neg h2, if_neg h2, if_neg h3, if_neg h3, if_pos h4, if_pos h4]
    · rw [if_neg h2, if_neg h2, if_neg h3, if_neg h3, if_neg h4, if_neg h4, vset_ne _ _ h1]
theorem hp_out {K : KT} {h a : Nat} {V : VW} (g : a < h ∨ h + 126 ≤ a) : hp K h V 4 a = V a := by
  unfold hp; rw [if_neg (by omega), if_neg (by omega), if_neg (by omega)]
theorem cut0 (n : Nat) : (fun _ => (0 : Int32)) = cutF n (fun _ => 0) := by
  funext i; simp [cutF]
theorem ww_0 (K : KT) (x : Nat) (V : VW) : (vset (vset (vset (vset (vset (hp K (x + 63) (bw K (x + 32) z0C (bw K (x + 1) z0C (vset V x (.inr (9, [.ref (x + 1), .ref (x + 32), .ref (x + 63), .ref (x + 189), .ref (x + 191)]))))) 4) (x + 189) (.inr (7, [.ref (x + 189 + 1), .int 0]))) (x + 189 + 1) (.inl (K.2.1 0, 60, .inl (fun _ => 0)))) (x + 191) (.inr (5, [.ref (x + 191 + 1), .int 0, .int 0, .int 0, .int 0]))) (x + 191 + 1) (.inr (4, [.ref (x + 191 + 2), .int 0, .int 0]))) (x + 191 + 2) (.inl (K.2.1 0, 3, .inl (fun _ => 0)))) = ww K x z0C z0C (fun _ => z0C) (fun k => k) (fun _ => 0) (fun _ => 0) (fun _ => 0) V := by
  funext a
  by_cases h : x ≤ a ∧ a < x + 194
  · obtain ⟨i, rfl⟩ : ∃ i, a = x + i := ⟨a - x, by omega⟩
    have hi : i < 194 := by omega
    rw [ww_at hi]
    by_cases q1 : 189 ≤ i
    · simp only [vset]
      rcases (show i = 189 ∨ i = 190 ∨ i = 191 ∨ i = 192 ∨ i = 193 by omega) with rfl | rfl | rfl | rfl | rfl
      · rw [if_neg (by omega), if_neg (by omega), if_neg (by omega), if_neg (by omega), if_pos (by omega)]; rfl
      · rw [if_neg (by omega), if_neg (by omega), if_neg (by omega), if_pos (by omega)]; exact congrArg (fun q9 => some (Sum.inl (K.2.1 0, 60, Sum.inl q9))) (cut0 60)
      · rw [if_neg (by omega), if_neg (by omega), if_pos (by omega)]; rfl
      · rw [if_neg (by omega), if_pos (by omega)]; rfl
      · rw [if_pos (by omega)]; exact congrArg (fun q9 => some (Sum.inl (K.2.1 0, 3, Sum.inl q9))) (cut0 3)
    rw [vset_ne _ _ (by omega), vset_ne _ _ (by omega), vset_ne _ _ (by omega), vset_ne _ _ (by omega), vset_ne _ _ (by omega)]
    by_cases q2 : 63 ≤ i
    · by_cases q3 : i = 63
      · subst q3; rw [hp_h]; rfl
      by_cases q4 : i = 64
      · subst q4; rw [show x + 64 = x + 63 + 1 by omega, hp_a]
        rw [show (fun q => if q < 4 ∧ 4 ≤ q then none else some (x + 63 + 2 + 31 * q)) = (fun q => some (x + 65 + 31 * q)) from funext fun q => if_neg (by omega)]; rfl
      · unfold hp wcell
        rw [if_pos (by omega), if_neg (by omega), if_neg (by omega), if_neg (by omega), if_neg q3, if_neg q4, if_pos (by omega), show x + i - (x + 63 + 2) = i - 65 by omega]
    rw [hp_out (by omega)]
    by_cases q5 : 32 ≤ i
    · unfold bw; rw [if_pos (by omega)]; unfold wcell; rw [if_neg (by omega), if_neg (by omega), if_pos (by omega), show x + i - (x + 32) = i - 32 by omega]
    rw [bw_out (by omega)]
    by_cases q6 : 1 ≤ i
    · unfold bw; rw [if_pos (by omega)]; unfold wcell; rw [if_neg (by omega), if_pos (by omega), show x + i - (x + 1) = i - 1 by omega]
    · obtain rfl : i = 0 := by omega
      rw [bw_out (by omega)]; simp only [vset]; rw [if_pos (by omega)]; rfl
  · rw [ww_out (by omega), vset_ne _ _ (by omega), vset_ne _ _ (by omega), vset_ne _ _ (by omega), vset_ne _ _ (by omega), vset_ne _ _ (by omega), hp_out (by omega), bw_out (by omega), bw_out (by omega), vset_ne _ _ (by omega)]
set_option maxHeartbeats 4000000 in
set_option maxRecDepth 100000 in
theorem c_X9_init (l : Launch) (K : KT) (V : VW) (x : Nat) : Ct l K yX9_init cX9_init 3 none 4 [.ref x] (vset V x (.inr (9, [.null, .null, .null, .null, .null]))) (x + 1) none (ww K x z0C z0C (fun _ => z0C) (fun k => k) (fun _ => 0) (fun _ => 0) (fun _ => 0) V) (x + 194) 193 1645 := by
  refine Ct.ofG (by decide) (Nat.le_of_ble_eq_true rfl) ?_
  intro p9 e9 s9 m9 a9 b9 t9 c9 cx hin9
  refine G.lv0 (lv2 := [(0, .ref x)]) rfl ?_
  refine G.aload_n (pc := 0) cx dX9_init_0 rfl 0 rfl ?_
  refine G.objI (pc := 1) cx dX9_init_1 wm_ml_X9_1 ⟨(Nat.le_of_ble_eq_true rfl), (Nat.le_of_ble_eq_true rfl)⟩ (Nat.le_of_ble_eq_true rfl) ?_
  refine G.aload_n (pc := 4) cx dX9_init_4 rfl 0 rfl ?_
  refine G.new (pc := 5) (fs := [.null, .null, .null, .null, .null, .int 0, .int 0, .int 0, .int 0, .int 0]) cx tyX0 tyX0_ok dX9_init_5 wm_cl_X9_7 inlX0 wm_ii_X0 wm_in_X0 (ci := 0) rfl (fun j hj => by revert j; decide) (Nat.le_of_ble_eq_true rfl) (Nat.le_of_ble_eq_true rfl) ?_
  refine G.dup (pc := 8) cx dX9_init_8 rfl ?_
  refine G.callI (pc := 9) (rest := [.ref (x + 1), .ref x]) cx (c_X0_init l K (vset V x (.inr (9, [.null, .null, .null, .null, .null]))) (x + 1)) ok_X0_init dX9_init_9 wm_ml_X9_9 rfl (Nat.le_of_ble_eq_true rfl) (by omega) ⟨(Nat.le_of_ble_eq_true rfl), (Nat.le_of_ble_eq_true rfl)⟩ ⟨(Nat.le_of_ble_eq_true rfl), (Nat.le_of_ble_eq_true rfl)⟩ ?_
  refine G.putF (pc := 12) (ci := 9) (fs := [.null, .null, .null, .null, .null]) (fs2 := [.ref (x + 1), .null, .null, .null, .null]) cx hin9 0 tyX9 tyX9_ok nmX9 dX9_init_12 wm_fl_X9_10 inlX9 rfl (by decide) rfl rfl rfl rfl rfl (by rw [bw_out (by omega)]; exact vset_self _ _ _) (by simp) rfl (G.cast (V' := (bw K (x + 1) z0C (vset V x (.inr (9, [.ref (x + 1), .null, .null, .null, .null]))))) (by rw [bw_vset (by omega), vset_vset]) ?_)
  refine G.aload_n (pc := 15) cx dX9_init_15 rfl 0 rfl ?_
  refine G.new (pc := 16) (fs := [.null, .null, .null, .null, .null, .int 0, .int 0, .int 0, .int 0, .int 0]) cx tyX0 tyX0_ok dX9_init_16 wm_cl_X9_7 inlX0 wm_ii_X0 wm_in_X0 (ci := 0) rfl (fun j hj => by revert j; decide) (Nat.le_of_ble_eq_true rfl) (Nat.le_of_ble_eq_true rfl) ?_
  refine G.dup (pc := 19) cx dX9_init_19 rfl ?_
  refine G.callI (pc := 20) (rest := [.ref (x + 32), .ref x]) cx (c_X0_init l K (bw K (x + 1) z0C (vset V x (.inr (9, [.ref (x + 1), .null, .null, .null, .null])))) (x + 32)) ok_X0_init dX9_init_20 wm_ml_X9_9 rfl (Nat.le_of_ble_eq_true rfl) (by omega) ⟨(Nat.le_of_ble_eq_true rfl), (Nat.le_of_ble_eq_true rfl)⟩ ⟨(Nat.le_of_ble_eq_true rfl), (Nat.le_of_ble_eq_true rfl)⟩ ?_
  refine G.putF (pc := 23) (ci := 9) (fs := [.ref (x + 1), .null, .null, .null, .null]) (fs2 := [.ref (x + 1), .ref (x + 32), .null, .null, .null]) cx hin9 1 tyX9 tyX9_ok nmX9 dX9_init_23 wm_fl_X9_16 inlX9 rfl (by decide) rfl rfl rfl rfl rfl (by rw [bw_out (by omega), bw_out (by omega)]; exact vset_self _ _ _) (by simp) rfl (G.cast (V' := (bw K (x + 32) z0C (bw K (x + 1) z0C (vset V x (.inr (9, [.ref (x + 1), .ref (x + 32), .null, .null, .null])))))) (by rw [bw_vset (by omega), bw_vset (by omega), vset_vset]) ?_)
  refine G.aload_n (pc := 26) cx dX9_init_26 rfl 0 rfl ?_
  refine G.new (pc := 27) (fs := [.null, .int 0]) cx tyX2 tyX2_ok dX9_init_27 wm_cl_X9_19 inlX2 wm_ii_X2 wm_in_X2 (ci := 2) rfl (fun j hj => by revert j; decide) (Nat.le_of_ble_eq_true rfl) (Nat.le_of_ble_eq_true rfl) ?_
  refine G.dup (pc := 30) cx dX9_init_30 rfl ?_
  refine G.callI (pc := 31) (rest := [.ref (x + 63), .ref x]) cx (c_X2_init l K (bw K (x + 32) z0C (bw K (x + 1) z0C (vset V x (.inr (9, [.ref (x + 1), .ref (x + 32), .null, .null, .null]))))) (x + 63)) ok_X2_init dX9_init_31 wm_ml_X9_21 rfl (Nat.le_of_ble_eq_true rfl) (by omega) ⟨(Nat.le_of_ble_eq_true rfl), (Nat.le_of_ble_eq_true rfl)⟩ ⟨(Nat.le_of_ble_eq_true rfl), (Nat.le_of_ble_eq_true rfl)⟩ ?_
  refine G.putF (pc := 34) (ci := 9) (fs := [.ref (x + 1), .ref (x + 32), .null, .null, .null]) (fs2 := [.ref (x + 1), .ref (x + 32), .ref (x + 63), .null, .null]) cx hin9 2 tyX9 tyX9_ok nmX9 dX9_init_34 wm_fl_X9_22 inlX9 rfl (by decide) rfl rfl rfl rfl rfl (by rw [hp_out (by omega), bw_out (by omega), bw_out (by omega)]; exact vset_self _ _ _) (by simp) rfl (G.cast (V' := (hp K (x + 63) (bw K (x + 32) z0C (bw K (x + 1) z0C (vset V x (.inr (9, [.ref (x + 1), .ref (x + 32), .ref (x + 63), .null, .null]))))) 4)) (by rw [hp_vset (by omega), bw_vset (by omega), bw_vset (by omega), vset_vset]) ?_)
  refine G.aload_n (pc := 37) cx dX9_init_37 rfl 0 rfl ?_
  refine G.new (pc := 38) (fs := [.null, .int 0]) cx tyX7 tyX7_ok dX9_init_38 wm_cl_X9_26 inlX7 wm_ii_X7 wm_in_X7 (ci := 7) rfl (fun j hj => by revert j; decide) (Nat.le_of_ble_eq_true rfl) (Nat.le_of_ble_eq_true rfl) ?_
  refine G.dup (pc := 41) cx dX9_init_41 rfl ?_
  refine G.callI (pc := 42) (rest := [.ref (x + 189), .ref x]) cx (c_X7_init l K (hp K (x + 63) (bw K (x + 32) z0C (bw K (x + 1) z0C (vset V x (.inr (9, [.ref (x + 1), .ref (x + 32), .ref (x + 63), .null, .null]))))) 4) (x + 189)) ok_X7_init dX9_init_42 wm_ml_X9_28 rfl (Nat.le_of_ble_eq_true rfl) (by omega) ⟨(Nat.le_of_ble_eq_true rfl), (Nat.le_of_ble_eq_true rfl)⟩ ⟨(Nat.le_of_ble_eq_true rfl), (Nat.le_of_ble_eq_true rfl)⟩ ?_
  refine G.putF (pc := 45) (ci := 9) (fs := [.ref (x + 1), .ref (x + 32), .ref (x + 63), .null, .null]) (fs2 := [.ref (x + 1), .ref (x + 32), .ref (x + 63), .ref (x + 189), .null]) cx hin9 3 tyX9 tyX9_ok nmX9 dX9_init_45 wm_fl_X9_29 inlX9 rfl (by decide) rfl rfl rfl rfl rfl (by rw [vset_ne _ _ (by omega), vset_ne _ _ (by omega), hp_out (by omega), bw_out (by omega), bw_out (by omega)]; exact vset_self _ _ _) (by simp) rfl (G.cast (V' := (vset (vset (hp K (x + 63) (bw K (x + 32) z0C (bw K (x + 1) z0C (vset V x (.inr (9, [.ref (x + 1), .ref (x + 32), .ref (x + 63), .ref (x + 189), .null]))))) 4) (x + 189) (.inr (7, [.ref (x + 189 + 1), .int 0]))) (x + 189 + 1) (.inl (K.2.1 0, 60, .inl (fun _ => 0))))) (by rw [vset_comm (show x + 189 + 1 ≠ x by omega), vset_comm (show x + 189 ≠ x by omega), hp_vset (by omega), bw_vset (by omega), bw_vset (by omega), vset_vset]) ?_)
  refine G.aload_n (pc := 48) cx dX9_init_48 rfl 0 rfl ?_
  refine G.new (pc := 49) (fs := [.null, .int 0, .int 0, .int 0, .int 0]) cx tyX5 tyX5_ok dX9_init_49 wm_cl_X9_33 inlX5 wm_ii_X5 wm_in_X5 (ci := 5) rfl (fun j hj => by revert j; decide) (Nat.le_of_ble_eq_true rfl) (Nat.le_of_ble_eq_true rfl) ?_
  refine G.dup (pc := 52) cx dX9_init_52 rfl ?_
  refine G.callI (pc := 53) (rest := [.ref (x + 191), .ref x]) cx (c_X5_init l K (vset (vset (hp K (x + 63) (bw K (x + 32) z0C (bw K (x + 1) z0C (vset V x (.inr (9, [.ref (x + 1), .ref (x + 32), .ref (x + 63), .ref (x + 189), .null]))))) 4) (x + 189) (.inr (7, [.ref (x + 189 + 1), .int 0]))) (x + 189 + 1) (.inl (K.2.1 0, 60, .inl (fun _ => 0)))) (x + 191)) ok_X5_init dX9_init_53 wm_ml_X9_35 rfl (Nat.le_of_ble_eq_true rfl) (by omega) ⟨(Nat.le_of_ble_eq_true rfl), (Nat.le_of_ble_eq_true rfl)⟩ ⟨(Nat.le_of_ble_eq_true rfl), (Nat.le_of_ble_eq_true rfl)⟩ ?_
  refine G.putF (pc := 56) (ci := 9) (fs := [.ref (x + 1), .ref (x + 32), .ref (x + 63), .ref (x + 189), .null]) (fs2 := [.ref (x + 1), .ref (x + 32), .ref (x + 63), .ref (x + 189), .ref (x + 191)]) cx hin9 4 tyX9 tyX9_ok nmX9 dX9_init_56 wm_fl_X9_36 inlX9 rfl (by decide) rfl rfl rfl rfl rfl (by rw [vset_ne _ _ (by omega), vset_ne _ _ (by omega), vset_ne _ _ (by omega), vset_ne _ _ (by omega), vset_ne _ _ (by omega), hp_out (by omega), bw_out (by omega), bw_out (by omega)]; exact vset_self _ _ _) (by simp) rfl (G.cast (V' := (vset (vset (vset (vset (vset (hp K (x + 63) (bw K (x + 32) z0C (bw K (x + 1) z0C (vset V x (.inr (9, [.ref (x + 1), .ref (x + 32), .ref (x + 63), .ref (x + 189), .ref (x + 191)]))))) 4) (x + 189) (.inr (7, [.ref (x + 189 + 1), .int 0]))) (x + 189 + 1) (.inl (K.2.1 0, 60, .inl (fun _ => 0)))) (x + 191) (.inr (5, [.ref (x + 191 + 1), .int 0, .int 0, .int 0, .int 0]))) (x + 191 + 1) (.inr (4, [.ref (x + 191 + 2), .int 0, .int 0]))) (x + 191 + 2) (.inl (K.2.1 0, 3, .inl (fun _ => 0))))) (by rw [vset_comm (show x + 191 + 2 ≠ x by omega), vset_comm (show x + 191 + 1 ≠ x by omega), vset_comm (show x + 191 ≠ x by omega), vset_comm (show x + 189 + 1 ≠ x by omega), vset_comm (show x + 189 ≠ x by omega), hp_vset (by omega), bw_vset (by omega), bw_vset (by omega), vset_vset]) ?_)
  exact G.vret (pc := 59) cx rfl dX9_init_59 rfl (ww_0 K x V) rfl
