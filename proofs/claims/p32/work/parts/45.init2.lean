def hp (K : KT) (h : Nat) (V : VW) (k : Nat) : VW := fun a => if h + 2 ≤ a ∧ a < h + 2 + 31 * k then some (bcell K (h + 2 + 31 * ((a - (h + 2)) / 31)) z0C ((a - (h + 2)) % 31)) else if a = h + 1 then some (.inl (K.2.1 3, 4, .inr (.inr (.inr (.inr (fun q => if q < 4 ∧ k ≤ q then none else some (h + 2 + 31 * q))))))) else if a = h then some (.inr (2, [.ref (h + 1), .int 0])) else V a
section HP
variable {K : KT} {h k : Nat} {V : VW}
theorem hp_h : hp K h V k h = some (.inr (2, [.ref (h + 1), .int 0])) := by
  unfold hp; rw [if_neg (by omega), if_neg (by omega), if_pos rfl]
theorem hp_a : hp K h V k (h + 1) = some (.inl (K.2.1 3, 4, .inr (.inr (.inr (.inr (fun q => if q < 4 ∧ k ≤ q then none else some (h + 2 + 31 * q))))))) := by
  unfold hp; rw [if_neg (by omega), if_pos rfl]
theorem hp_0 {x : va_E} : vset (vset (vset V h x) (h + 1) (.inl (K.2.1 3, 4, .inr (.inr (.inr (.inr (fun q => if q < 4 ∧ 0 ≤ q then none else some (h + 2 + 31 * q)))))))) h (.inr (2, [.ref (h + 1), .int 0])) = hp K h V 0 := by
  funext a; simp only [vset, hp]
  by_cases h0 : a = h
  · subst h0; rw [if_pos rfl, if_neg (by omega), if_neg (by omega), if_pos rfl]
  · rw [if_neg h0, if_neg (show ¬ (h + 2 ≤ a ∧ a < h + 2 + 31 * 0) by omega)]
    by_cases h1 : a = h + 1
    · rw [if_pos h1, if_pos h1]
    · rw [if_neg h1, if_neg h0, if_neg h1, if_neg h0]
theorem hp_s (hk : k < 4) : vset (bw K (h + 2 + 31 * k) z0C (hp K h V k)) (h + 1) (.inl (K.2.1 3, 4, .inr (.inr (.inr (.inr (va_up (fun q => if q < 4 ∧ k ≤ q then none else some (h + 2 + 31 * q)) k (some (h + 2 + 31 * k)))))))) = hp K h V (k + 1) := by
  have e : (va_up (fun q => if q < 4 ∧ k ≤ q then none else some (h + 2 + 31 * q)) k (some (h + 2 + 31 * k)) : Nat → Option Nat) = fun q => if q < 4 ∧ k + 1 ≤ q then none else some (h + 2 + 31 * q) := by
    funext q; simp only [va_up]
    by_cases g : q = k
    · subst g; simp
    · by_cases g2 : q < 4 ∧ k ≤ q
      · rw [if_neg g, if_pos g2, if_pos (by omega)]
      · rw [if_neg g, if_neg g2, if_neg (by omega)]
  rw [e]
  funext a; simp only [vset]
  by_cases h1 : a = h + 1
  · rw [if_pos h1]; unfold hp; rw [if_neg (by omega), if_pos h1]
  rw [if_neg h1]
  by_cases h2 : h + 2 + 31 * k ≤ a ∧ a < h + 2 + 31 * k + 31
  · unfold bw hp
    rw [if_pos h2, if_pos (show h + 2 ≤ a ∧ a < h + 2 + 31 * (k + 1) by omega), show (a - (h + 2)) / 31 = k by omega, show (a - (h + 2)) % 31 = a - (h + 2 + 31 * k) by omega]
  · rw [bw_out (by omega)]; unfold hp
    by_cases h3 : h + 2 ≤ a ∧ a < h + 2 + 31 * k
    · rw [if_pos h3, if_pos (show h + 2 ≤ a ∧ a < h + 2 + 31 * (k + 1) by omega)]
    · rw [if_neg h3, if_neg h1, if_neg (show ¬ (h + 2 ≤ a ∧ a < h + 2 + 31 * (k + 1)) by omega), if_neg h1]
end HP
set_option maxHeartbeats 4000000 in
set_option maxRecDepth 100000 in
theorem c_X2_init (l : Launch) (K : KT) (V : VW) (h : Nat) : Ct l K yX2_init cX2_init 2 none 3 [.ref h] (vset V h (.inr (2, [.null, .int 0]))) (h + 1) none (hp K h V 4) (h + 126) 125 1048 := by
  refine Ct.ofG (by decide) (Nat.le_of_ble_eq_true rfl) ?_
  intro p9 e9 s9 m9 a9 b9 t9 c9 cx hin9
  refine G.lv0 (lv2 := [(0, .ref h)]) rfl ?_
  refine G.aload_n (pc := 0) cx dX2_init_0 rfl 0 rfl ?_
  refine G.objI (pc := 1) cx dX2_init_1 wm_ml_X2_3 ⟨(Nat.le_of_ble_eq_true rfl), (Nat.le_of_ble_eq_true rfl)⟩ (Nat.le_of_ble_eq_true rfl) ?_
  refine G.aload_n (pc := 4) cx dX2_init_4 rfl 0 rfl ?_
  refine G.iconst (pc := 5) cx dX2_init_5 (v := 4) (by decide) ?_
  refine G.newrF (pc := 6) cx 3 rfl (fun _ h => h.2.2.2.2.2) dX2_init_6 wm_cl_X2_9 4 (fun q => if q < 4 ∧ 0 ≤ q then none else some (h + 2 + 31 * q)) (fun q hq => if_pos ⟨hq, Nat.zero_le _⟩) rfl (by decide) (Nat.le_of_ble_eq_true rfl) (Nat.le_of_ble_eq_true rfl) ?_
  refine G.putF (pc := 9) (ci := 2) (fs := [.null, .int 0]) (fs2 := [.ref (h + 1), .int 0]) cx hin9 0 tyX2 tyX2_ok nmX2 dX2_init_9 wm_fl_X2_11 inlX2 rfl (by decide) rfl rfl rfl rfl rfl (by simp [vset]; try omega) (by simp) rfl (G.cast (V' := hp K h V 0) hp_0 ?_)
  refine G.iconst (pc := 12) cx dX2_init_12 (v := 0) (by decide) ?_
  refine G.istore_n (pc := 13) cx dX2_init_13 rfl (by decide) rfl ?_
  have hL14 : ∀ fz k : Nat, 4 - k < fz → k ≤ 4 → G K p9 l e9 (rmL 3 125 1048) s9 m9 a9 b9 t9 c9 (MQ b9 (QCt K none (hp K h V 4) (h + 126)) a9 s9 125 1048 (kA K)) 2 (hp K h V k) (h + 2 + 31 * k) (1 + 31 * k) (4 + 261 * k) 14 [(1, .int (nI k)), (0, .ref h)] [] := by
    intro fz
    induction fz with
    | zero => intro k h9 h8; omega
    | succ fz ih => 
      intro k h9 h8
      refine G.iload_n (pc := 14) cx dX2_init_14 rfl 0 rfl ?_
      refine G.aload_n (pc := 15) cx dX2_init_15 rfl 1 rfl ?_
      refine G.getV (pc := 16) cx dX2_init_16 (T := TX2) 0 wm_fl_X2_11 inlX2 rfl (by decide) hp_h rfl ?_
      refine G.alenV (pc := 19) cx dX2_init_19 3 rfl hp_a (v := 4) rfl ?_
      refine G.icmp_geN (pc := 20) cx k 4 (by omega) (by omega) dX2_init_20 (tgt := 42) (by decide) (fun q9 => ?_) (fun q9 => ?_)
      · have e9 : k = 4 := by omega
        subst e9
        exact G.vret (pc := 42) cx rfl dX2_init_42 rfl rfl rfl
      · skip
        refine G.aload_n (pc := 23) cx dX2_init_23 rfl 1 rfl ?_
        refine G.getV (pc := 24) cx dX2_init_24 (T := TX2) 0 wm_fl_X2_11 inlX2 rfl (by decide) hp_h rfl ?_
        refine G.iload_n (pc := 27) cx dX2_init_27 rfl 0 rfl ?_
        refine G.new (pc := 28) (fs := [.null, .null, .null, .null, .null, .int 0, .int 0, .int 0, .int 0, .int 0]) cx tyX0 tyX0_ok dX2_init_28 wm_cl_X2_9 inlX0 wm_ii_X0 wm_in_X0 (ci := 0) rfl (fun j hj => by revert j; decide) (by show _ + 1 ≤ 125; omega) (by show _ + 10 ≤ 1048; omega) ?_
        refine G.dup (pc := 31) cx dX2_init_31 rfl ?_
        refine G.callI (pc := 32) (rest := [.ref (h + 2 + 31 * k), .int (nI k), .ref (h + 1)]) cx (c_X0_init l K (hp K h V k) (h + 2 + 31 * k)) ok_X0_init dX2_init_32 wm_ml_X2_17 rfl (Nat.le_of_ble_eq_true rfl) (by omega) ⟨(Nat.le_of_ble_eq_true rfl), (Nat.le_of_ble_eq_true rfl)⟩ ⟨by show _ + 1 + 30 ≤ 125; omega, by show _ + 10 + 251 ≤ 1048; omega⟩ ?_
        refine G.aast (pc := 35) cx 3 rfl (ci := 0) rfl dX2_init_35 ((bw_out (by omega)).trans hp_a) bw_b rfl (by omega) (by decide) (G.cast (V' := hp K h V (k + 1)) (hp_s (by omega)) ?_)
        refine G.iinc (pc := 36) cx dX2_init_36 (v := nI (k + 1)) (k := 0) rfl (nI_add k 1) (by decide) rfl ?_
        refine G.goto (pc := 39) cx dX2_init_39 (tgt := 14) (by decide) ?_
        exact ih (k + 1) (by omega) (by omega)
  exact hL14 5 0 (by omega) (by omega)
set_option maxHeartbeats 4000000 in
set_option maxRecDepth 100000 in
theorem c_X5_init (l : Launch) (K : KT) (V : VW) (r : Nat) : Ct l K yX5_init cX5_init 1 none 2 [.ref r] (vset V r (.inr (5, [.null, .int 0, .int 0, .int 0, .int 0]))) (r + 1) none (vset (vset (vset V r (.inr (5, [.ref (r + 1), .int 0, .int 0, .int 0, .int 0]))) (r + 1) (.inr (4, [.ref (r + 2), .int 0, .int 0]))) (r + 2) (.inl (K.2.1 0, 3, .inl (fun _ => 0)))) (r + 3) 2 6 := by
  refine Ct.ofG (by decide) (Nat.le_of_ble_eq_true rfl) ?_
  intro p9 e9 s9 m9 a9 b9 t9 c9 cx hin9
  refine G.lv0 (lv2 := [(0, .ref r)]) rfl ?_
  refine G.aload_n (pc := 0) cx dX5_init_0 rfl 0 rfl ?_
  refine G.objI (pc := 1) cx dX5_init_1 wm_ml_X5_3 ⟨(Nat.le_of_ble_eq_true rfl), (Nat.le_of_ble_eq_true rfl)⟩ (Nat.le_of_ble_eq_true rfl) ?_
  refine G.aload_n (pc := 4) cx dX5_init_4 rfl 0 rfl ?_
  refine G.new (pc := 5) (fs := [.null, .int 0, .int 0]) cx tyX4 tyX4_ok dX5_init_5 wm_cl_X5_9 inlX4 wm_ii_X4 wm_in_X4 (ci := 4) rfl (fun j hj => by revert j; decide) (Nat.le_of_ble_eq_true rfl) (Nat.le_of_ble_eq_true rfl) ?_
  refine G.dup (pc := 8) cx dX5_init_8 rfl ?_
  refine G.callI (pc := 9) (rest := [.ref (r + 1), .ref r]) cx (c_X4_init l K (vset V r (.inr (5, [.null, .int 0, .int 0, .int 0, .int 0]))) (r + 1)) ok_X4_init dX5_init_9 wm_ml_X5_11 rfl (Nat.le_of_ble_eq_true rfl) (by omega) ⟨(Nat.le_of_ble_eq_true rfl), (Nat.le_of_ble_eq_true rfl)⟩ ⟨(Nat.le_of_ble_eq_true rfl), (Nat.le_of_ble_eq_true rfl)⟩ ?_
  refine G.putF (pc := 12) (ci := 5) (fs := [.null, .int 0, .int 0, .int 0, .int 0]) (fs2 := [.ref (r + 1), .int 0, .int 0, .int 0, .int 0]) cx hin9 0 tyX5 tyX5_ok nmX5 dX5_init_12 wm_fl_X5_12 inlX5 rfl (by decide) rfl rfl rfl rfl rfl (by simp [vset]; try omega) (by simp) rfl (G.cast (V' := vset (vset (vset V r (.inr (5, [.ref (r + 1), .int 0, .int 0, .int 0, .int 0]))) (r + 1) (.inr (4, [.ref (r + 2), .int 0, .int 0]))) (r + 2) (.inl (K.2.1 0, 3, .inl (fun _ => 0)))) (by funext q9; simp only [vset]; by_cases h0 : q9 = r <;> simp [h0]) ?_)
  exact G.vret (pc := 15) cx rfl dX5_init_15 rfl rfl rfl
