theorem vset_comm {V : VW} {a q : Nat} {x y : va_E} (h : a ≠ q) : vset (vset V a x) q y = vset (vset V q y) a x := by
  funext r; simp only [vset]
  by_cases h1 : r = q
  · rw [if_pos h1, if_neg (by omega), if_pos h1]
  · rw [if_neg h1, if_neg h1]
theorem ib_put {K : KT} {b k : Nat} {V : VW} {B B2 : List Value} : vset (ib K b V B k) b (.inr (0, B2)) = ib K b V B2 k := by
  funext a; simp only [vset, ib]
  by_cases h : a = b
  · subst h; rw [if_pos rfl, if_neg (by omega), if_neg (by omega), ia_b]
  · rw [if_neg h]; unfold ia; rw [if_neg h, if_neg h]
theorem set_0C : cpA 3 fS (fun _ => 0) = setF z0C := by
  funext i; simp only [cpA, setF]
  by_cases h : i < 3
  · rw [if_pos h, if_pos h]
    rcases (show i = 0 ∨ i = 1 ∨ i = 2 by omega) with rfl | rfl | rfl <;> rfl
  · rw [if_neg h, if_neg h]
theorem z0C_0 {i : Nat} (h : i ≠ 195 ∧ i ≠ 203 ∧ i ≠ 204 ∧ i ≠ 205) : z0C i = 0 := by
  unfold z0C; rw [upd_n _ _ h.2.2.2, upd_n _ _ h.2.2.1, upd_n _ _ h.2.1, upd_n _ _ h.1]
theorem ent_0C (w : Nat) : (fun _ => (0 : Int32)) = entF z0C w := by
  funext i; simp only [entF]
  by_cases h : i < 8
  · rw [if_pos h, z0C_0 (by omega)]
  · rw [if_neg h]
theorem b0_bw (K : KT) (b : Nat) (V : VW) : (vset (vset (vset (vset (vset (vset (ib K b V [.ref (b + 1), .ref (b + 18), .ref (b + 25), .ref (b + 26), .ref (b + 30), .int 0, .int 0, .int 0, .int 0, .int 0] 6) (b + 25) (.inl (K.2.1 0, 3, .inl (cpA 3 fS (fun _ => 0))))) (b + 26) (.inr (1, [.ref (b + 26 + 1), .ref (b + 26 + 2), .ref (b + 26 + 3), .int 0]))) (b + 26 + 1) (.inl (K.2.1 0, 8, .inl (fun _ => 0)))) (b + 26 + 2) (.inl (K.2.1 0, 8, .inl (fun _ => 0)))) (b + 26 + 3) (.inl (K.2.1 0, 8, .inl (fun _ => 0)))) (b + 30) (.inr (8, [.int 500, .int 0, .int 0, .int 0, .int 0, .int 0, .int 0, .int 0]))) = bw K b z0C V := by
  funext a
  by_cases h : b ≤ a ∧ a < b + 31
  · obtain ⟨i, rfl⟩ : ∃ i, a = b + i := ⟨a - b, by omega⟩
    have hi : i < 31 := by omega
    rw [bw_at hi, set_0C]
    simp only [vset, ib, ia]
    by_cases e1 : 2 ≤ i ∧ i < 18
    · obtain ⟨k, rfl⟩ : ∃ k, i = 2 + k := ⟨i - 2, by omega⟩
      have hk : k < 16 := by omega
      rw [bc_s hk, if_neg (by omega), if_neg (by omega), if_neg (by omega), if_neg (by omega), if_neg (by omega), if_neg (by omega), if_neg (by omega), if_neg (by omega), if_pos (by omega)]
      simp only [slist]
      rw [z0C_0 (by omega), z0C_0 (by omega), z0C_0 (by omega), z0C_0 (by omega), z0C_0 (by omega), z0C_0 (by omega), z0C_0 (by omega), z0C_0 (by omega), z0C_0 (by omega), z0C_0 (by omega)]; rfl
    by_cases e2 : 19 ≤ i ∧ i < 25
    · obtain ⟨k, rfl⟩ : ∃ k, i = 19 + k := ⟨i - 19, by omega⟩
      have hk : k < 6 := by omega
      rw [bc_i hk, if_neg (by omega), if_neg (by omega), if_neg (by omega), if_neg (by omega), if_neg (by omega), if_neg (by omega), if_pos (by omega)]
      simp only [ilist]
      rw [z0C_0 (by omega), z0C_0 (by omega), z0C_0 (by omega), z0C_0 (by omega), z0C_0 (by omega)]
    rcases (show i = 0 ∨ i = 1 ∨ i = 18 ∨ i = 25 ∨ i = 26 ∨ i = 27 ∨ i = 28 ∨ i = 29 ∨ i = 30 by omega) with rfl | rfl | rfl | rfl | rfl | rfl | rfl | rfl | rfl
    · rw [if_neg (by omega), if_neg (by omega), if_neg (by omega), if_neg (by omega), if_neg (by omega), if_neg (by omega), if_neg (by omega), if_neg (by omega), if_neg (by omega), if_neg (by omega), if_pos (by omega)]; first | done | rfl
    · simp; rw [show (fun q => if q < 16 ∧ 16 ≤ q then none else some (b + 2 + q)) = (fun q => some (b + 2 + q)) from funext fun q => if_neg (by omega)]; rfl
    · simp; rw [show (fun q => if q < 6 ∧ 6 ≤ q then none else some (b + 19 + q)) = (fun q => some (b + 19 + q)) from funext fun q => if_neg (by omega)]; rfl
    · simp; rfl
    · simp; rfl
    · simp; exact (bc_e (K := K) (b := b) (z := z0C) (k := 0) (by decide)).symm ▸ (by rw [← ent_0C])
    · simp; exact (bc_e (K := K) (b := b) (z := z0C) (k := 1) (by decide)).symm ▸ (by rw [← ent_0C])
    · simp; exact (bc_e (K := K) (b := b) (z := z0C) (k := 2) (by decide)).symm ▸ (by rw [← ent_0C])
    · simp; rfl
  · rw [bw_out (by omega)]
    simp only [vset, ib, ia]
    rw [if_neg (by omega), if_neg (by omega), if_neg (by omega), if_neg (by omega), if_neg (by omega), if_neg (by omega), if_neg (by omega), if_neg (by omega), if_neg (by omega), if_neg (by omega), if_neg (by omega)]
set_option maxHeartbeats 4000000 in
set_option maxRecDepth 100000 in
theorem c_X0_init (l : Launch) (K : KT) (V : VW) (b : Nat) : Ct l K yX0_init cX0_init 2 none 2 [.ref b] (vset V b (.inr (0, [.null, .null, .null, .null, .null, .int 0, .int 0, .int 0, .int 0, .int 0]))) (b + 1) none (bw K b z0C V) (b + 31) 30 251 := by
  refine Ct.ofG (by decide) (Nat.le_of_ble_eq_true rfl) ?_
  intro p9 e9 s9 m9 a9 b9 t9 c9 cx hin9
  refine G.lv0 (lv2 := [(0, .ref b)]) rfl ?_
  refine G.aload_n (pc := 0) cx dX0_init_0 rfl 0 rfl ?_
  refine G.objI (pc := 1) cx dX0_init_1 wm_ml_X0_3 ⟨(Nat.le_of_ble_eq_true rfl), (Nat.le_of_ble_eq_true rfl)⟩ (Nat.le_of_ble_eq_true rfl) ?_
  refine G.aload_n (pc := 4) cx dX0_init_4 rfl 0 rfl ?_
  refine G.bipush (pc := 5) cx dX0_init_5 (v := 16) (by decide) ?_
  refine G.newrF (pc := 7) cx 1 rfl (fun _ h => h.2.2.2.1) dX0_init_7 wm_cl_X0_9 16 (fun q => if q < 16 ∧ 0 ≤ q then none else some (b + 2 + q)) (fun q hq => if_pos ⟨hq, Nat.zero_le _⟩) rfl (by decide) (Nat.le_of_ble_eq_true rfl) (Nat.le_of_ble_eq_true rfl) ?_
  refine G.putF (pc := 10) (ci := 0) (fs := [.null, .null, .null, .null, .null, .int 0, .int 0, .int 0, .int 0, .int 0]) (fs2 := [.ref (b + 1), .null, .null, .null, .null, .int 0, .int 0, .int 0, .int 0, .int 0]) cx hin9 0 tyX0 tyX0_ok nmX0 dX0_init_10 wm_fl_X0_11 inlX0 rfl (by decide) rfl rfl rfl rfl rfl (by simp [vset]; try omega) (by simp) rfl (G.cast (V' := (ia K b V [.ref (b + 1), .null, .null, .null, .null, .int 0, .int 0, .int 0, .int 0, .int 0] 0)) ia_0 ?_)
  have hE54 : G K p9 l e9 (rmL 2 30 251) s9 m9 a9 b9 t9 c9 (MQ b9 (QCt K none (bw K b z0C V) (b + 31)) a9 s9 30 251 (kA K)) 2 (ib K b V [.ref (b + 1), .ref (b + 18), .null, .null, .null, .int 0, .int 0, .int 0, .int 0, .int 0] 6) (b + 19 + 6) (18 + 6) (182 + 5 * 6) 82 [(1, .int (nI 6)), (0, .ref b)] [] := by
    refine G.aload_n (pc := 82) cx dX0_init_82 rfl 1 rfl ?_
    refine G.getsF (pc := 83) cx rfl dX0_init_83 ?_
    refine G.tlenF (pc := 86) cx dX0_init_86 ?_
    refine G.newi (pc := 87) cx dX0_init_87 wm_ac_int 3 rfl (by decide) (Nat.le_of_ble_eq_true rfl) (Nat.le_of_ble_eq_true rfl) ?_
    refine G.putF (pc := 89) (ci := 0) (fs := [.ref (b + 1), .ref (b + 18), .null, .null, .null, .int 0, .int 0, .int 0, .int 0, .int 0]) (fs2 := [.ref (b + 1), .ref (b + 18), .ref (b + 25), .null, .null, .int 0, .int 0, .int 0, .int 0, .int 0]) cx hin9 2 tyX0 tyX0_ok nmX0 dX0_init_89 wm_fl_X0_29 inlX0 rfl (by decide) rfl rfl rfl rfl rfl ((vset_ne _ _ (by omega)).trans ib_b) (by simp) rfl (G.cast (V' := (vset (ib K b V [.ref (b + 1), .ref (b + 18), .ref (b + 25), .null, .null, .int 0, .int 0, .int 0, .int 0, .int 0] 6) (b + 25) (.inl (K.2.1 0, 3, .inl (fun _ => 0))))) ((vset_comm (by omega)).trans (congrArg (fun q9 => vset q9 _ _) ib_put)) ?_)
    refine G.getsF (pc := 92) cx rfl dX0_init_92 ?_
    refine G.aload_n (pc := 95) cx dX0_init_95 rfl 1 rfl ?_
    refine G.getV (pc := 96) cx dX0_init_96 (T := TX0) 2 wm_fl_X0_29 inlX0 rfl (by decide) ((vset_ne _ _ (by omega)).trans ib_b) rfl ?_
    refine G.callSN (pc := 99) (rest := []) cx (c_X9_copyNumbers_F l K (b + 26) (vset (ib K b V [.ref (b + 1), .ref (b + 18), .ref (b + 25), .null, .null, .int 0, .int 0, .int 0, .int 0, .int 0] 6) (b + 25) (.inl (K.2.1 0, 3, .inl (fun _ => 0)))) (b + 25) (fun _ => 0) (vset_self _ _ _)) ok_X9_copyNumbers dX0_init_99 (by decide +kernel) rfl (Nat.le_of_ble_eq_true rfl) (Nat.le_refl _) ⟨(Nat.le_of_ble_eq_true rfl), (Nat.le_of_ble_eq_true rfl)⟩ ⟨(Nat.le_of_ble_eq_true rfl), (Nat.le_of_ble_eq_true rfl)⟩ ?_
    refine G.cast (V' := (vset (ib K b V [.ref (b + 1), .ref (b + 18), .ref (b + 25), .null, .null, .int 0, .int 0, .int 0, .int 0, .int 0] 6) (b + 25) (.inl (K.2.1 0, 3, .inl (cpA 3 fS (fun _ => 0)))))) (vset_vset _ _ _) ?_
    refine G.aload_n (pc := 102) cx dX0_init_102 rfl 1 rfl ?_
    refine G.new (pc := 103) (fs := [.null, .null, .null, .int 0]) cx tyX1 tyX1_ok dX0_init_103 wm_cl_X0_36 inlX1 wm_ii_X1 wm_in_X1 (ci := 1) rfl (fun j hj => by revert j; decide) (Nat.le_of_ble_eq_true rfl) (Nat.le_of_ble_eq_true rfl) ?_
    refine G.dup (pc := 106) cx dX0_init_106 rfl ?_
    refine G.callI (pc := 107) (rest := [.ref (b + 26), .ref b]) cx (c_X1_init l K (vset (ib K b V [.ref (b + 1), .ref (b + 18), .ref (b + 25), .null, .null, .int 0, .int 0, .int 0, .int 0, .int 0] 6) (b + 25) (.inl (K.2.1 0, 3, .inl (cpA 3 fS (fun _ => 0))))) (b + 26)) ok_X1_init dX0_init_107 wm_ml_X0_38 rfl (Nat.le_of_ble_eq_true rfl) (by omega) ⟨(Nat.le_of_ble_eq_true rfl), (Nat.le_of_ble_eq_true rfl)⟩ ⟨(Nat.le_of_ble_eq_true rfl), (Nat.le_of_ble_eq_true rfl)⟩ ?_
    refine G.putF (pc := 110) (ci := 0) (fs := [.ref (b + 1), .ref (b + 18), .ref (b + 25), .null, .null, .int 0, .int 0, .int 0, .int 0, .int 0]) (fs2 := [.ref (b + 1), .ref (b + 18), .ref (b + 25), .ref (b + 26), .null, .int 0, .int 0, .int 0, .int 0, .int 0]) cx hin9 3 tyX0 tyX0_ok nmX0 dX0_init_110 wm_fl_X0_39 inlX0 rfl (by decide) rfl rfl rfl rfl rfl (by rw [vset_ne _ _ (by omega), vset_ne _ _ (by omega), vset_ne _ _ (by omega), vset_ne _ _ (by omega), vset_ne _ _ (by omega), ib_b]) (by simp) rfl (G.cast (V' := (vset (vset (vset (vset (vset (ib K b V [.ref (b + 1), .ref (b + 18), .ref (b + 25), .ref (b + 26), .null, .int 0, .int 0, .int 0, .int 0, .int 0] 6) (b + 25) (.inl (K.2.1 0, 3, .inl (cpA 3 fS (fun _ => 0))))) (b + 26) (.inr (1, [.ref (b + 26 + 1), .ref (b + 26 + 2), .ref (b + 26 + 3), .int 0]))) (b + 26 + 1) (.inl (K.2.1 0, 8, .inl (fun _ => 0)))) (b + 26 + 2) (.inl (K.2.1 0, 8, .inl (fun _ => 0)))) (b + 26 + 3) (.inl (K.2.1 0, 8, .inl (fun _ => 0))))) (by rw [vset_comm (show b + 26 + 3 ≠ b by omega), vset_comm (show b + 26 + 2 ≠ b by omega), vset_comm (show b + 26 + 1 ≠ b by omega), vset_comm (show b + 26 ≠ b by omega), vset_comm (show b + 25 ≠ b by omega), ib_put]) ?_)
    refine G.aload_n (pc := 113) cx dX0_init_113 rfl 1 rfl ?_
    refine G.new (pc := 114) (fs := [.int 0, .int 0, .int 0, .int 0, .int 0, .int 0, .int 0, .int 0]) cx tyX8 tyX8_ok dX0_init_114 wm_cl_X0_43 inlX8 wm_ii_X8 wm_in_X8 (ci := 8) rfl (fun j hj => by revert j; decide) (Nat.le_of_ble_eq_true rfl) (Nat.le_of_ble_eq_true rfl) ?_
    refine G.dup (pc := 117) cx dX0_init_117 rfl ?_
    refine G.callI (pc := 118) (rest := [.ref (b + 30), .ref b]) cx (c_X8_init l K (vset (vset (vset (vset (vset (ib K b V [.ref (b + 1), .ref (b + 18), .ref (b + 25), .ref (b + 26), .null, .int 0, .int 0, .int 0, .int 0, .int 0] 6) (b + 25) (.inl (K.2.1 0, 3, .inl (cpA 3 fS (fun _ => 0))))) (b + 26) (.inr (1, [.ref (b + 26 + 1), .ref (b + 26 + 2), .ref (b + 26 + 3), .int 0]))) (b + 26 + 1) (.inl (K.2.1 0, 8, .inl (fun _ => 0)))) (b + 26 + 2) (.inl (K.2.1 0, 8, .inl (fun _ => 0)))) (b + 26 + 3) (.inl (K.2.1 0, 8, .inl (fun _ => 0)))) (b + 30)) ok_X8_init dX0_init_118 wm_ml_X0_45 rfl (Nat.le_of_ble_eq_true rfl) (Nat.le_refl _) ⟨(Nat.le_of_ble_eq_true rfl), (Nat.le_of_ble_eq_true rfl)⟩ ⟨(Nat.le_of_ble_eq_true rfl), (Nat.le_of_ble_eq_true rfl)⟩ ?_
    refine G.putF (pc := 121) (ci := 0) (fs := [.ref (b + 1), .ref (b + 18), .ref (b + 25), .ref (b + 26), .null, .int 0, .int 0, .int 0, .int 0, .int 0]) (fs2 := [.ref (b + 1), .ref (b + 18), .ref (b + 25), .ref (b + 26), .ref (b + 30), .int 0, .int 0, .int 0, .int 0, .int 0]) cx hin9 4 tyX0 tyX0_ok nmX0 dX0_init_121 wm_fl_X0_46 inlX0 rfl (by decide) rfl rfl rfl rfl rfl (by rw [vset_ne _ _ (by omega), vset_ne _ _ (by omega), vset_ne _ _ (by omega), vset_ne _ _ (by omega), vset_ne _ _ (by omega), vset_ne _ _ (by omega), ib_b]) (by simp) rfl (G.cast (V' := (vset (vset (vset (vset (vset (vset (ib K b V [.ref (b + 1), .ref (b + 18), .ref (b + 25), .ref (b + 26), .ref (b + 30), .int 0, .int 0, .int 0, .int 0, .int 0] 6) (b + 25) (.inl (K.2.1 0, 3, .inl (cpA 3 fS (fun _ => 0))))) (b + 26) (.inr (1, [.ref (b + 26 + 1), .ref (b + 26 + 2), .ref (b + 26 + 3), .int 0]))) (b + 26 + 1) (.inl (K.2.1 0, 8, .inl (fun _ => 0)))) (b + 26 + 2) (.inl (K.2.1 0, 8, .inl (fun _ => 0)))) (b + 26 + 3) (.inl (K.2.1 0, 8, .inl (fun _ => 0)))) (b + 30) (.inr (8, [.int 500, .int 0, .int 0, .int 0, .int 0, .int 0, .int 0, .int 0])))) (by rw [vset_comm (show b + 30 ≠ b by omega), vset_comm (show b + 26 + 3 ≠ b by omega), vset_comm (show b + 26 + 2 ≠ b by omega), vset_comm (show b + 26 + 1 ≠ b by omega), vset_comm (show b + 26 ≠ b by omega), vset_comm (show b + 25 ≠ b by omega), ib_put]) ?_)
    exact G.vret (pc := 124) cx rfl dX0_init_124 rfl (b0_bw K b V) rfl
  have hL54 : ∀ fz k : Nat, 6 - k < fz → k ≤ 6 → G K p9 l e9 (rmL 2 30 251) s9 m9 a9 b9 t9 c9 (MQ b9 (QCt K none (bw K b z0C V) (b + 31)) a9 s9 30 251 (kA K)) 2 (ib K b V [.ref (b + 1), .ref (b + 18), .null, .null, .null, .int 0, .int 0, .int 0, .int 0, .int 0] k) (b + 19 + k) (18 + k) (182 + 5 * k) 54 [(1, .int (nI k)), (0, .ref b)] [] := by
    intro fz
    induction fz with
    | zero => intro k h9 h8; omega
    | succ fz ih => 
      intro k h9 h8
      refine G.iload_n (pc := 54) cx dX0_init_54 rfl 0 rfl ?_
      refine G.aload_n (pc := 55) cx dX0_init_55 rfl 1 rfl ?_
      refine G.getV (pc := 56) cx dX0_init_56 (T := TX0) 1 wm_fl_X0_20 inlX0 rfl (by decide) ib_b rfl ?_
      refine G.alenV (pc := 59) cx dX0_init_59 2 rfl ib_a (v := 6) rfl ?_
      refine G.icmp_geN (pc := 60) cx k 6 (by omega) (by omega) dX0_init_60 (tgt := 82) (by decide) (fun q9 => ?_) (fun q9 => ?_)
      · have e9 : k = 6 := by omega
        subst e9
        exact hE54
      · skip
        refine G.aload_n (pc := 63) cx dX0_init_63 rfl 1 rfl ?_
        refine G.getV (pc := 64) cx dX0_init_64 (T := TX0) 1 wm_fl_X0_20 inlX0 rfl (by decide) ib_b rfl ?_
        refine G.iload_n (pc := 67) cx dX0_init_67 rfl 0 rfl ?_
        refine G.new (pc := 68) (fs := [.int 0, .int 0, .int 0, .int 0, .int 0]) cx tyX3 tyX3_ok dX0_init_68 wm_cl_X0_18 inlX3 wm_ii_X3 wm_in_X3 (ci := 3) rfl (fun j hj => by revert j; decide) (by show _ + 1 ≤ 30; omega) (by show _ + 5 ≤ 251; omega) ?_
        refine G.dup (pc := 71) cx dX0_init_71 rfl ?_
        refine G.callIN (pc := 72) (rest := [.ref (b + 19 + k), .int (nI k), .ref (b + 18)]) cx (c_X3_init l K (ib K b V [.ref (b + 1), .ref (b + 18), .null, .null, .null, .int 0, .int 0, .int 0, .int 0, .int 0] k) (b + 19 + k)) ok_X3_init dX0_init_72 (by decide +kernel) rfl (Nat.le_of_ble_eq_true rfl) (Nat.le_refl _) ⟨(Nat.le_of_ble_eq_true rfl), (Nat.le_of_ble_eq_true rfl)⟩ ⟨by show _ + 1 + 0 ≤ 30; omega, by show _ + 5 + 0 ≤ 251; omega⟩ ?_
        refine G.aast (pc := 75) cx 2 rfl (ci := 3) rfl dX0_init_75 ((vset_ne _ _ (by omega)).trans ib_a) (vset_self _ _ _) rfl (by omega) (by decide) (G.cast (V' := (ib K b V [.ref (b + 1), .ref (b + 18), .null, .null, .null, .int 0, .int 0, .int 0, .int 0, .int 0] (k + 1))) (ib_s (by omega)) ?_)
        refine G.iinc (pc := 76) cx dX0_init_76 (v := nI (k + 1)) (k := 0) rfl (nI_add k 1) (by decide) rfl ?_
        refine G.goto (pc := 79) cx dX0_init_79 (tgt := 54) (by decide) ?_
        exact ih (k + 1) (by omega) (by omega)
  have hE15 : G K p9 l e9 (rmL 2 30 251) s9 m9 a9 b9 t9 c9 (MQ b9 (QCt K none (bw K b z0C V) (b + 31)) a9 s9 30 251 (kA K)) 2 (ia K b V [.ref (b + 1), .null, .null, .null, .null, .int 0, .int 0, .int 0, .int 0, .int 0] 16) (b + 2 + 16) (1 + 16) (16 + 10 * 16) 43 [(1, .int (nI 16)), (0, .ref b)] [] := by
    refine G.aload_n (pc := 43) cx dX0_init_43 rfl 1 rfl ?_
    refine G.bipush (pc := 44) cx dX0_init_44 (v := 6) (by decide) ?_
    refine G.newrF (pc := 46) cx 2 rfl (fun _ h => h.2.2.2.2.1) dX0_init_46 wm_cl_X0_18 6 (fun q => if q < 6 ∧ 0 ≤ q then none else some (b + 19 + q)) (fun q hq => if_pos ⟨hq, Nat.zero_le _⟩) rfl (by decide) (Nat.le_of_ble_eq_true rfl) (Nat.le_of_ble_eq_true rfl) ?_
    refine G.putF (pc := 49) (ci := 0) (fs := [.ref (b + 1), .null, .null, .null, .null, .int 0, .int 0, .int 0, .int 0, .int 0]) (fs2 := [.ref (b + 1), .ref (b + 18), .null, .null, .null, .int 0, .int 0, .int 0, .int 0, .int 0]) cx hin9 1 tyX0 tyX0_ok nmX0 dX0_init_49 wm_fl_X0_20 inlX0 rfl (by decide) rfl rfl rfl rfl rfl ((vset_ne _ _ (by omega)).trans ia_b) (by simp) rfl (G.cast (V' := (ib K b V [.ref (b + 1), .ref (b + 18), .null, .null, .null, .int 0, .int 0, .int 0, .int 0, .int 0] 0)) ib_0 ?_)
    refine G.iconst (pc := 52) cx dX0_init_52 (v := 0) (by decide) ?_
    refine G.istore_n (pc := 53) cx dX0_init_53 rfl (by decide) rfl ?_
    exact hL54 7 0 (by omega) (by omega)
  have hL15 : ∀ fz k : Nat, 16 - k < fz → k ≤ 16 → G K p9 l e9 (rmL 2 30 251) s9 m9 a9 b9 t9 c9 (MQ b9 (QCt K none (bw K b z0C V) (b + 31)) a9 s9 30 251 (kA K)) 2 (ia K b V [.ref (b + 1), .null, .null, .null, .null, .int 0, .int 0, .int 0, .int 0, .int 0] k) (b + 2 + k) (1 + k) (16 + 10 * k) 15 [(1, .int (nI k)), (0, .ref b)] [] := by
    intro fz
    induction fz with
    | zero => intro k h9 h8; omega
    | succ fz ih => 
      intro k h9 h8
      refine G.iload_n (pc := 15) cx dX0_init_15 rfl 0 rfl ?_
      refine G.aload_n (pc := 16) cx dX0_init_16 rfl 1 rfl ?_
      refine G.getV (pc := 17) cx dX0_init_17 (T := TX0) 0 wm_fl_X0_11 inlX0 rfl (by decide) ia_b rfl ?_
      refine G.alenV (pc := 20) cx dX0_init_20 1 rfl ia_a (v := 16) rfl ?_
      refine G.icmp_geN (pc := 21) cx k 16 (by omega) (by omega) dX0_init_21 (tgt := 43) (by decide) (fun q9 => ?_) (fun q9 => ?_)
      · have e9 : k = 16 := by omega
        subst e9
        exact hE15
      · skip
        refine G.aload_n (pc := 24) cx dX0_init_24 rfl 1 rfl ?_
        refine G.getV (pc := 25) cx dX0_init_25 (T := TX0) 0 wm_fl_X0_11 inlX0 rfl (by decide) ia_b rfl ?_
        refine G.iload_n (pc := 28) cx dX0_init_28 rfl 0 rfl ?_
        refine G.new (pc := 29) (fs := [.int 0, .int 0, .int 0, .int 0, .int 0, .int 0, .int 0, .int 0, .int 0, .int 0]) cx tyX6 tyX6_ok dX0_init_29 wm_cl_X0_9 inlX6 wm_ii_X6 wm_in_X6 (ci := 6) rfl (fun j hj => by revert j; decide) (by show _ + 1 ≤ 30; omega) (by show _ + 10 ≤ 251; omega) ?_
        refine G.dup (pc := 32) cx dX0_init_32 rfl ?_
        refine G.callIN (pc := 33) (rest := [.ref (b + 2 + k), .int (nI k), .ref (b + 1)]) cx (c_X6_init l K (ia K b V [.ref (b + 1), .null, .null, .null, .null, .int 0, .int 0, .int 0, .int 0, .int 0] k) (b + 2 + k)) ok_X6_init dX0_init_33 (by decide +kernel) rfl (Nat.le_of_ble_eq_true rfl) (Nat.le_refl _) ⟨(Nat.le_of_ble_eq_true rfl), (Nat.le_of_ble_eq_true rfl)⟩ ⟨by show _ + 1 + 0 ≤ 30; omega, by show _ + 10 + 0 ≤ 251; omega⟩ ?_
        refine G.aast (pc := 36) cx 1 rfl (ci := 6) rfl dX0_init_36 ((vset_ne _ _ (by omega)).trans ia_a) (vset_self _ _ _) rfl (by omega) (by decide) (G.cast (V' := (ia K b V [.ref (b + 1), .null, .null, .null, .null, .int 0, .int 0, .int 0, .int 0, .int 0] (k + 1))) (ia_s (by omega)) ?_)
        refine G.iinc (pc := 37) cx dX0_init_37 (v := nI (k + 1)) (k := 0) rfl (nI_add k 1) (by decide) rfl ?_
        refine G.goto (pc := 40) cx dX0_init_40 (tgt := 15) (by decide) ?_
        exact ih (k + 1) (by omega) (by omega)
  refine G.iconst (pc := 13) cx dX0_init_13 (v := 0) (by decide) ?_
  refine G.istore_n (pc := 14) cx dX0_init_14 rfl (by decide) rfl ?_
  exact hL15 17 0 (by omega) (by omega)
