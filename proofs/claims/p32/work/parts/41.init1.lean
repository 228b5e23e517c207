set_option maxHeartbeats 4000000 in
set_option maxRecDepth 100000 in
theorem c_X6_init (l : Launch) (K : KT) (V : VW) (a : Nat) : Ct l K yX6_init cX6_init 1 none 1 [.ref a] (vset V a (.inr (6, [.int 0, .int 0, .int 0, .int 0, .int 0, .int 0, .int 0, .int 0, .int 0, .int 0]))) (a + 1) none (vset V a (.inr (6, [.int 0, .int 0, .int 0, .int 0, .int 0, .int 0, .int 0, .int 0, .int 0, .int 0]))) (a + 1) 0 0 := by
  refine Ct.ofG (by decide) (Nat.le_of_ble_eq_true rfl) ?_
  intro p9 e9 s9 m9 a9 b9 t9 c9 cx hin9
  refine G.lv0 (lv2 := [(0, .ref a)]) rfl ?_
  refine G.aload_n (pc := 0) cx dX6_init_0 rfl 0 rfl ?_
  refine G.objI (pc := 1) cx dX6_init_1 wm_ml_X6_3 ⟨(Nat.le_of_ble_eq_true rfl), (Nat.le_of_ble_eq_true rfl)⟩ (Nat.le_of_ble_eq_true rfl) ?_
  exact G.vret (pc := 4) cx rfl dX6_init_4 rfl rfl rfl
set_option maxHeartbeats 4000000 in
set_option maxRecDepth 100000 in
theorem c_X3_init (l : Launch) (K : KT) (V : VW) (a : Nat) : Ct l K yX3_init cX3_init 1 none 1 [.ref a] (vset V a (.inr (3, [.int 0, .int 0, .int 0, .int 0, .int 0]))) (a + 1) none (vset V a (.inr (3, [.int 0, .int 0, .int 0, .int 0, .int 0]))) (a + 1) 0 0 := by
  refine Ct.ofG (by decide) (Nat.le_of_ble_eq_true rfl) ?_
  intro p9 e9 s9 m9 a9 b9 t9 c9 cx hin9
  refine G.lv0 (lv2 := [(0, .ref a)]) rfl ?_
  refine G.aload_n (pc := 0) cx dX3_init_0 rfl 0 rfl ?_
  refine G.objI (pc := 1) cx dX3_init_1 wm_ml_X3_3 ⟨(Nat.le_of_ble_eq_true rfl), (Nat.le_of_ble_eq_true rfl)⟩ (Nat.le_of_ble_eq_true rfl) ?_
  exact G.vret (pc := 4) cx rfl dX3_init_4 rfl rfl rfl
set_option maxHeartbeats 4000000 in
set_option maxRecDepth 100000 in
theorem c_X8_init (l : Launch) (K : KT) (V : VW) (a : Nat) : Ct l K yX8_init cX8_init 1 none 1 [.ref a] (vset V a (.inr (8, [.int 0, .int 0, .int 0, .int 0, .int 0, .int 0, .int 0, .int 0]))) (a + 1) none (vset V a (.inr (8, [.int 500, .int 0, .int 0, .int 0, .int 0, .int 0, .int 0, .int 0]))) (a + 1) 0 0 := by
  refine Ct.ofG (by decide) (Nat.le_of_ble_eq_true rfl) ?_
  intro p9 e9 s9 m9 a9 b9 t9 c9 cx hin9
  refine G.lv0 (lv2 := [(0, .ref a)]) rfl ?_
  refine G.aload_n (pc := 0) cx dX8_init_0 rfl 0 rfl ?_
  refine G.objI (pc := 1) cx dX8_init_1 wm_ml_X8_3 ⟨(Nat.le_of_ble_eq_true rfl), (Nat.le_of_ble_eq_true rfl)⟩ (Nat.le_of_ble_eq_true rfl) ?_
  refine G.aload_n (pc := 4) cx dX8_init_4 rfl 0 rfl ?_
  refine G.sipush (pc := 5) cx dX8_init_5 (v := 500) (by decide) ?_
  refine G.put (pc := 8) (ci := 8) (fs := [.int 0, .int 0, .int 0, .int 0, .int 0, .int 0, .int 0, .int 0]) cx 0 tyX8 tyX8_ok nmX8 dX8_init_8 wm_fl_X8_9 inlX8 rfl (by decide) rfl rfl rfl rfl (by simp [vset]; try omega) (by simp) rfl (G.cast (V' := (vset V a (.inr (8, [.int 500, .int 0, .int 0, .int 0, .int 0, .int 0, .int 0, .int 0])))) (by funext q9; simp only [vset]; by_cases h0 : q9 = a <;> simp [h0]) ?_)
  exact G.vret (pc := 11) cx rfl dX8_init_11 rfl rfl rfl
set_option maxHeartbeats 4000000 in
set_option maxRecDepth 100000 in
theorem c_X1_init (l : Launch) (K : KT) (V : VW) (a : Nat) : Ct l K yX1_init cX1_init 1 none 1 [.ref a] (vset V a (.inr (1, [.null, .null, .null, .int 0]))) (a + 1) none (vset (vset (vset (vset V a (.inr (1, [.ref (a + 1), .ref (a + 2), .ref (a + 3), .int 0]))) (a + 1) (.inl (K.2.1 0, 8, .inl (fun _ => 0)))) (a + 2) (.inl (K.2.1 0, 8, .inl (fun _ => 0)))) (a + 3) (.inl (K.2.1 0, 8, .inl (fun _ => 0)))) (a + 4) 3 24 := by
  refine Ct.ofG (by decide) (Nat.le_of_ble_eq_true rfl) ?_
  intro p9 e9 s9 m9 a9 b9 t9 c9 cx hin9
  refine G.lv0 (lv2 := [(0, .ref a)]) rfl ?_
  refine G.aload_n (pc := 0) cx dX1_init_0 rfl 0 rfl ?_
  refine G.objI (pc := 1) cx dX1_init_1 wm_ml_X1_3 ⟨(Nat.le_of_ble_eq_true rfl), (Nat.le_of_ble_eq_true rfl)⟩ (Nat.le_of_ble_eq_true rfl) ?_
  refine G.aload_n (pc := 4) cx dX1_init_4 rfl 0 rfl ?_
  refine G.bipush (pc := 5) cx dX1_init_5 (v := 8) (by decide) ?_
  refine G.newi (pc := 7) cx dX1_init_7 wm_ac_int 8 rfl (by decide) (Nat.le_of_ble_eq_true rfl) (Nat.le_of_ble_eq_true rfl) ?_
  refine G.putF (pc := 9) (ci := 1) (fs := [.null, .null, .null, .int 0]) cx hin9 0 tyX1 tyX1_ok nmX1 dX1_init_9 wm_fl_X1_9 inlX1 rfl (by decide) rfl rfl rfl rfl rfl (by simp [vset]; try omega) (by simp) rfl (G.cast (V' := (vset (vset V a (.inr (1, [.ref (a + 1), .null, .null, .int 0]))) (a + 1) (.inl (K.2.1 0, 8, .inl (fun _ => 0))))) (by funext q9; simp only [vset]; by_cases h0 : q9 = a <;> simp [h0]) ?_)
  refine G.aload_n (pc := 12) cx dX1_init_12 rfl 0 rfl ?_
  refine G.bipush (pc := 13) cx dX1_init_13 (v := 8) (by decide) ?_
  refine G.newi (pc := 15) cx dX1_init_15 wm_ac_int 8 rfl (by decide) (Nat.le_of_ble_eq_true rfl) (Nat.le_of_ble_eq_true rfl) ?_
  refine G.putF (pc := 17) (ci := 1) (fs := [.ref (a + 1), .null, .null, .int 0]) cx hin9 1 tyX1 tyX1_ok nmX1 dX1_init_17 wm_fl_X1_15 inlX1 rfl (by decide) rfl rfl rfl rfl rfl (by simp [vset]; try omega) (by simp) rfl (G.cast (V' := (vset (vset (vset V a (.inr (1, [.ref (a + 1), .ref (a + 2), .null, .int 0]))) (a + 1) (.inl (K.2.1 0, 8, .inl (fun _ => 0)))) (a + 2) (.inl (K.2.1 0, 8, .inl (fun _ => 0))))) (by funext q9; simp only [vset]; by_cases h0 : q9 = a <;> simp [h0]) ?_)
  refine G.aload_n (pc := 20) cx dX1_init_20 rfl 0 rfl ?_
  refine G.bipush (pc := 21) cx dX1_init_21 (v := 8) (by decide) ?_
  refine G.newi (pc := 23) cx dX1_init_23 wm_ac_int 8 rfl (by decide) (Nat.le_of_ble_eq_true rfl) (Nat.le_of_ble_eq_true rfl) ?_
  refine G.putF (pc := 25) (ci := 1) (fs := [.ref (a + 1), .ref (a + 2), .null, .int 0]) cx hin9 2 tyX1 tyX1_ok nmX1 dX1_init_25 wm_fl_X1_18 inlX1 rfl (by decide) rfl rfl rfl rfl rfl (by simp [vset]; try omega) (by simp) rfl (G.cast (V' := (vset (vset (vset (vset V a (.inr (1, [.ref (a + 1), .ref (a + 2), .ref (a + 3), .int 0]))) (a + 1) (.inl (K.2.1 0, 8, .inl (fun _ => 0)))) (a + 2) (.inl (K.2.1 0, 8, .inl (fun _ => 0)))) (a + 3) (.inl (K.2.1 0, 8, .inl (fun _ => 0))))) (by funext q9; simp only [vset]; by_cases h0 : q9 = a <;> simp [h0]) ?_)
  exact G.vret (pc := 28) cx rfl dX1_init_28 rfl rfl rfl
set_option maxHeartbeats 4000000 in
set_option maxRecDepth 100000 in
theorem c_X4_init (l : Launch) (K : KT) (V : VW) (a : Nat) : Ct l K yX4_init cX4_init 1 none 1 [.ref a] (vset V a (.inr (4, [.null, .int 0, .int 0]))) (a + 1) none (vset (vset V a (.inr (4, [.ref (a + 1), .int 0, .int 0]))) (a + 1) (.inl (K.2.1 0, 3, .inl (fun _ => 0)))) (a + 2) 1 3 := by
  refine Ct.ofG (by decide) (Nat.le_of_ble_eq_true rfl) ?_
  intro p9 e9 s9 m9 a9 b9 t9 c9 cx hin9
  refine G.lv0 (lv2 := [(0, .ref a)]) rfl ?_
  refine G.aload_n (pc := 0) cx dX4_init_0 rfl 0 rfl ?_
  refine G.objI (pc := 1) cx dX4_init_1 wm_ml_X4_3 ⟨(Nat.le_of_ble_eq_true rfl), (Nat.le_of_ble_eq_true rfl)⟩ (Nat.le_of_ble_eq_true rfl) ?_
  refine G.aload_n (pc := 4) cx dX4_init_4 rfl 0 rfl ?_
  refine G.iconst (pc := 5) cx dX4_init_5 (v := 3) (by decide) ?_
  refine G.newi (pc := 6) cx dX4_init_6 wm_ac_int 3 rfl (by decide) (Nat.le_of_ble_eq_true rfl) (Nat.le_of_ble_eq_true rfl) ?_
  refine G.putF (pc := 8) (ci := 4) (fs := [.null, .int 0, .int 0]) cx hin9 0 tyX4 tyX4_ok nmX4 dX4_init_8 wm_fl_X4_9 inlX4 rfl (by decide) rfl rfl rfl rfl rfl (by simp [vset]; try omega) (by simp) rfl (G.cast (V' := (vset (vset V a (.inr (4, [.ref (a + 1), .int 0, .int 0]))) (a + 1) (.inl (K.2.1 0, 3, .inl (fun _ => 0))))) (by funext q9; simp only [vset]; by_cases h0 : q9 = a <;> simp [h0]) ?_)
  exact G.vret (pc := 11) cx rfl dX4_init_11 rfl rfl rfl
set_option maxHeartbeats 4000000 in
set_option maxRecDepth 100000 in
theorem c_X7_init (l : Launch) (K : KT) (V : VW) (a : Nat) : Ct l K yX7_init cX7_init 1 none 1 [.ref a] (vset V a (.inr (7, [.null, .int 0]))) (a + 1) none (vset (vset V a (.inr (7, [.ref (a + 1), .int 0]))) (a + 1) (.inl (K.2.1 0, 60, .inl (fun _ => 0)))) (a + 2) 1 60 := by
  refine Ct.ofG (by decide) (Nat.le_of_ble_eq_true rfl) ?_
  intro p9 e9 s9 m9 a9 b9 t9 c9 cx hin9
  refine G.lv0 (lv2 := [(0, .ref a)]) rfl ?_
  refine G.aload_n (pc := 0) cx dX7_init_0 rfl 0 rfl ?_
  refine G.objI (pc := 1) cx dX7_init_1 wm_ml_X7_3 ⟨(Nat.le_of_ble_eq_true rfl), (Nat.le_of_ble_eq_true rfl)⟩ (Nat.le_of_ble_eq_true rfl) ?_
  refine G.aload_n (pc := 4) cx dX7_init_4 rfl 0 rfl ?_
  refine G.bipush (pc := 5) cx dX7_init_5 (v := 60) (by decide) ?_
  refine G.newi (pc := 7) cx dX7_init_7 wm_ac_int 60 rfl (by decide) (Nat.le_of_ble_eq_true rfl) (Nat.le_of_ble_eq_true rfl) ?_
  refine G.putF (pc := 9) (ci := 7) (fs := [.null, .int 0]) cx hin9 0 tyX7 tyX7_ok nmX7 dX7_init_9 wm_fl_X7_9 inlX7 rfl (by decide) rfl rfl rfl rfl rfl (by simp [vset]; try omega) (by simp) rfl (G.cast (V' := (vset (vset V a (.inr (7, [.ref (a + 1), .int 0]))) (a + 1) (.inl (K.2.1 0, 60, .inl (fun _ => 0))))) (by funext q9; simp only [vset]; by_cases h0 : q9 = a <;> simp [h0]) ?_)
  exact G.vret (pc := 12) cx rfl dX7_init_12 rfl rfl rfl
