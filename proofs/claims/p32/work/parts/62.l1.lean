/-! THE LAW'S SMALL METHODS over the picture -/
def lWhy (y : Zt) (k j : Nat) (m : Int32) : Int32 := if 0 < y (10 * k + 2) then 1 else if y (160 + 5 * j) < m then 2 else if zBal y k + y 203 < m * y (160 + 5 * j + 1) then 3 else 0
def zFn (y : Zt) (i : Nat) (v : Int32) : Zt := zWrite (upd (upd y (10 * i + 6) (y (10 * i + 6) + v)) 201 (y 201 + v)) (nI i) 1 v
theorem ent_up {E : Nat} (h : E ≤ 8) : nI E + (if nI E < 8 then 1 else 0) = nI (if E = 8 then 8 else E + 1) := by
  by_cases e : E = 8
  · subst e; decide
  · have g : nI E < (8 : Int32) := (nI_ltI (b := 8) (by omega) (by decide)).mpr (by omega)
    rw [if_neg e, if_pos g]
    exact nI_add E 1
theorem clr_eq (y : Zt) (i : Nat) (v : Int32) : upd (upd (upd (upd (upd (upd y (10 * i + 3) 0) (10 * i + 4) 0) (10 * i + 8) v) (10 * i + 5) 0) (10 * i + 6) 0) (10 * i + 7) 0 = upd (zClear y i) (10 * i + 8) v := by
  funext q; simp only [zClear, upd]
  by_cases h8 : q = 10 * i + 8
  · subst h8; simp
  · by_cases h : 10 * i + 3 ≤ q ∧ q ≤ 10 * i + 8
    · rcases (show q = 10 * i + 7 ∨ q = 10 * i + 6 ∨ q = 10 * i + 5 ∨ q = 10 * i + 4 ∨ q = 10 * i + 3 by omega) with e | e | e | e | e <;> subst e <;> simp
    · rw [if_neg (by omega), if_neg (by omega), if_neg (by omega), if_neg h8, if_neg (by omega), if_neg (by omega), if_neg h8, if_neg h]
def lowM (v : Int32) : Nat := (v &&& 2147483647).toNatClampNeg
theorem low_rem (v : Int32) {n : Nat} (h0 : 0 < n) (h : n < 2 ^ 31) : (v &&& 2147483647) - (v &&& 2147483647) / nI n * nI n = nI (lowM v % n) := by
  obtain ⟨j, hj, e⟩ := pk_andE v (m := 2147483647) 31 (by decide)
  have e2 : (v &&& 2147483647) = nI j := e
  unfold lowM
  rw [e2, nI_clamp hj, pk_div (by omega) (by omega) (by omega), pk_mul, pk_sub (Nat.div_mul_le_self j n)]
  congr 1
  have := Nat.div_add_mod j n
  rw [Nat.mul_comm] at this
  omega
theorem c_L_low (l : Launch) (K : KT) (sz : Nat) (V : VW) (v : Int32) {n : Nat} (h0 : 0 < n) (h : n < 2 ^ 31) : Ct l K yL_low cL_low 2 (some .int) 0 [.int v, .int (nI n)] V sz (some (.int (nI (lowM v % n)))) V sz 0 0 := by
  refine Ct.ofG (by decide) (Nat.le_of_ble_eq_true rfl) ?_
  intro p9 e9 s9 m9 a9 b9 t9 c9 cx hin9
  refine G.lv0 (lv2 := [(0, .int v), (1, .int (nI n))]) rfl ?_
  refine G.iload_n (pc := 0) cx dL_low_0 rfl 0 rfl ?_
  refine G.ldc (pc := 1) cx dL_low_1 (v := 2147483647) wm_ct_L_8 ?_
  refine G.iand (pc := 3) cx dL_low_3 ?_
  refine G.iload_n (pc := 4) cx dL_low_4 rfl 1 rfl ?_
  refine G.irem (pc := 5) cx dL_low_5 (fun e => by rw [show (0 : Int32) = nI 0 from rfl, nI_eq h (by decide)] at e; omega) ?_
  exact G.iret (pc := 6) cx rfl dL_low_6 (congrArg (fun q => some (Value.int q)) (low_rem v h0 h).symm) rfl rfl
theorem k_low (l : Launch) (K : KT) (sz : Nat) (V : VW) (v : Int32) {n : Nat} (h0 : 0 < n) (h : n < 2 ^ 31) : ∃ r : Nat, r < n ∧ Ct l K yL_low cL_low 2 (some .int) 0 [.int v, .int (nI n)] V sz (some (.int (nI r))) V sz 0 0 := ⟨lowM v % n, Nat.mod_lt _ h0, c_L_low l K sz V v h0 h⟩
set_option maxRecDepth 100000 in
theorem k_cell (l : Launch) (K : KT) (sz : Nat) (V : VW) {i : Nat} (hi : i < 2 ^ 31) (hL : K.2.2.2.2.2.2.1 ≤ 260) : ∃ r : Int32, Ct l K yL_cell cL_cell 2 (some .int) 0 [.ref K.2.2.2.2.2.1, .int (nI i)] V sz (some (.int r)) V sz 0 0 := by
  refine ⟨if i < K.2.2.2.2.2.2.1 then K.2.2.2.2.2.2.2 i else -1101764913 * (nI i + 1), ?_⟩
  refine Ct.ofG (by decide) (Nat.le_of_ble_eq_true rfl) ?_
  intro p9 e9 s9 m9 a9 b9 t9 c9 cx hin9
  refine G.lv0 (lv2 := [(0, .ref K.2.2.2.2.2.1), (1, .int (nI i))]) rfl ?_
  refine G.iload_n (pc := 0) cx dL_cell_0 rfl 1 rfl ?_
  refine G.aload_n (pc := 1) cx dL_cell_1 rfl 0 rfl ?_
  refine G.slenK (pc := 2) cx dL_cell_2 ?_
  refine G.icmp_geN (pc := 3) cx i K.2.2.2.2.2.2.1 hi (by omega) dL_cell_3 (tgt := 12) (by decide) (fun h => ?_) (fun h => ?_)
  · refine G.ldc (pc := 12) cx dL_cell_12 (v := -1101764913) wm_ct_L_7 ?_
    refine G.iload_n (pc := 14) cx dL_cell_14 rfl 1 rfl ?_
    refine G.iconst (pc := 15) cx dL_cell_15 (v := 1) (by decide) ?_
    refine G.iadd (pc := 16) cx dL_cell_16 ?_
    refine G.imul (pc := 17) cx dL_cell_17 ?_
    exact G.iret (pc := 18) cx rfl dL_cell_18 (congrArg (fun q => some (Value.int q)) (if_neg (by omega))) rfl rfl
  · refine G.aload_n (pc := 6) cx dL_cell_6 rfl 0 rfl ?_
    refine G.iload_n (pc := 7) cx dL_cell_7 rfl 1 rfl ?_
    refine G.sldK (pc := 8) cx dL_cell_8 h hL ?_
    refine G.goto (pc := 9) cx dL_cell_9 (tgt := 18) (by decide) ?_
    exact G.iret (pc := 18) cx rfl dL_cell_18 (congrArg (fun q => some (Value.int q)) (if_pos h)) rfl rfl
set_option maxHeartbeats 4000000 in
set_option maxRecDepth 100000 in
theorem c_L_earned (l : Launch) (K : KT) (sz : Nat) (x : Nat) (z : Zt) (s : Ot) (y : Zt) (V : VW) (k : Nat) (hk : k < 16) : Ct l K yL_earned cL_earned 5 (some .int) 0 [.ref (x + 195), .ref (x + 196), .int (nI k)] (xwL K x z s y V) sz (some (.int (zEarn y k))) (xwL K x z s y V) sz 0 0 := by
  refine Ct.ofG (by decide) (Nat.le_of_ble_eq_true rfl) ?_
  intro p9 e9 s9 m9 a9 b9 t9 c9 cx hin9
  refine G.lv0 (lv2 := [(0, .ref (x + 195)), (1, .ref (x + 196)), (2, .int (nI k))]) rfl ?_
  refine G.aload_n (pc := 0) cx dL_earned_0 rfl 1 rfl ?_
  refine G.iconst (pc := 1) cx dL_earned_1 (v := 4) (by decide) ?_
  refine G.iload_n (pc := 2) cx dL_earned_2 rfl 2 rfl ?_
  refine G.imulN (pc := 3) cx dL_earned_3 4 k ?_
  refine G.ialdV (pc := 4) cx dL_earned_4 xl_b (j := (4 * k)) rfl (by omega) (by decide) (xr_b (n := 10 * k + 3) (by omega) (by omega)) ?_
  refine G.istore_n (pc := 5) cx dL_earned_5 rfl (by decide) rfl ?_
  refine G.aload_n (pc := 6) cx dL_earned_6 rfl 2 rfl ?_
  refine G.iconst (pc := 7) cx dL_earned_7 (v := 4) (by decide) ?_
  refine G.iload_n (pc := 8) cx dL_earned_8 rfl 3 rfl ?_
  refine G.imulN (pc := 9) cx dL_earned_9 4 k ?_
  refine G.iconst (pc := 10) cx dL_earned_10 (v := 1) (by decide) ?_
  refine G.iaddN (pc := 11) cx dL_earned_11 (4 * k) 1 ?_
  refine G.ialdV (pc := 12) cx dL_earned_12 xl_b (j := ((4 * k) + 1)) rfl (by omega) (by decide) (xr_b (n := 10 * k + 4) (by omega) (by omega)) ?_
  refine G.istore (pc := 13) cx dL_earned_13 (by decide) rfl ?_
  refine G.aload_n (pc := 15) cx dL_earned_15 rfl 2 rfl ?_
  refine G.iconst (pc := 16) cx dL_earned_16 (v := 3) (by decide) ?_
  refine G.iload_n (pc := 17) cx dL_earned_17 rfl 4 rfl ?_
  refine G.imulN (pc := 18) cx dL_earned_18 3 k ?_
  refine G.ialdV (pc := 19) cx dL_earned_19 xl_a (j := (3 * k)) rfl (by omega) (by decide) (xr_a (n := 10 * k) (by omega) (by omega)) ?_
  refine G.if_ne (pc := 20) cx dL_earned_20 (tgt := 30) (by decide) (fun cq20 => ?_) (fun cq20 => ?_)
  · skip
    refine G.aload_n (pc := 30) cx dL_earned_30 rfl 2 rfl ?_
    refine G.iconst (pc := 31) cx dL_earned_31 (v := 3) (by decide) ?_
    refine G.iload_n (pc := 32) cx dL_earned_32 rfl 4 rfl ?_
    refine G.imulN (pc := 33) cx dL_earned_33 3 k ?_
    refine G.ialdV (pc := 34) cx dL_earned_34 xl_a (j := (3 * k)) rfl (by omega) (by decide) (xr_a (n := 10 * k) (by omega) (by omega)) ?_
    refine G.iconst (pc := 35) cx dL_earned_35 (v := 1) (by decide) ?_
    refine G.icmp_ne (pc := 36) cx dL_earned_36 (tgt := 46) (by decide) (fun cq36 => ?_) (fun cq36 => ?_)
    · skip
      refine G.aload_n (pc := 46) cx dL_earned_46 rfl 2 rfl ?_
      refine G.iconst (pc := 47) cx dL_earned_47 (v := 3) (by decide) ?_
      refine G.iload_n (pc := 48) cx dL_earned_48 rfl 4 rfl ?_
      refine G.imulN (pc := 49) cx dL_earned_49 3 k ?_
      refine G.ialdV (pc := 50) cx dL_earned_50 xl_a (j := (3 * k)) rfl (by omega) (by decide) (xr_a (n := 10 * k) (by omega) (by omega)) ?_
      refine G.iconst (pc := 51) cx dL_earned_51 (v := 2) (by decide) ?_
      refine G.icmp_ne (pc := 52) cx dL_earned_52 (tgt := 74) (by decide) (fun cq52 => ?_) (fun cq52 => ?_)
      · skip
        refine G.iconst (pc := 74) cx dL_earned_74 (v := 2) (by decide) ?_
        refine G.iload_n (pc := 75) cx dL_earned_75 rfl 1 rfl ?_
        refine G.iload_n (pc := 76) cx dL_earned_76 rfl 1 rfl ?_
        refine G.iadd (pc := 77) cx dL_earned_77 ?_
        refine G.iload (pc := 78) cx dL_earned_78 0 rfl ?_
        refine G.iadd (pc := 80) cx dL_earned_80 ?_
        refine G.imul (pc := 81) cx dL_earned_81 ?_
        refine G.iret (pc := 82) cx rfl dL_earned_82 ?_ ?_ rfl
        · refine congrArg (fun x => some (Value.int x)) ?_
          (try clear hin9); (try clear cx); unfold zEarn zWages; rw [if_neg cq20, if_neg cq36]; first | (rw [if_pos cq52]; grind) | (rw [if_neg cq52]; grind)
        · rfl
      · skip
        refine G.iconst (pc := 55) cx dL_earned_55 (v := 2) (by decide) ?_
        refine G.iload_n (pc := 56) cx dL_earned_56 rfl 1 rfl ?_
        refine G.imul (pc := 57) cx dL_earned_57 ?_
        refine G.iconst (pc := 58) cx dL_earned_58 (v := 2) (by decide) ?_
        refine G.iload (pc := 59) cx dL_earned_59 0 rfl ?_
        refine G.imul (pc := 61) cx dL_earned_61 ?_
        refine G.iadd (pc := 62) cx dL_earned_62 ?_
        refine G.iload_n (pc := 63) cx dL_earned_63 rfl 1 rfl ?_
        refine G.iload (pc := 64) cx dL_earned_64 0 rfl ?_
        refine G.iadd (pc := 66) cx dL_earned_66 ?_
        refine G.bipush (pc := 67) cx dL_earned_67 (v := 7) (by decide) ?_
        refine G.idiv (pc := 69) cx dL_earned_69 (by decide) ?_
        refine G.iadd (pc := 70) cx dL_earned_70 ?_
        refine G.goto (pc := 71) cx dL_earned_71 (tgt := 82) (by decide) ?_
        refine G.iret (pc := 82) cx rfl dL_earned_82 ?_ ?_ rfl
        · refine congrArg (fun x => some (Value.int x)) ?_
          (try clear hin9); (try clear cx); unfold zEarn zWages; rw [if_neg cq20, if_neg cq36]; first | (rw [if_pos cq52]; grind) | (rw [if_neg cq52]; grind)
        · rfl
    · skip
      refine G.iload_n (pc := 39) cx dL_earned_39 rfl 1 rfl ?_
      refine G.iload_n (pc := 40) cx dL_earned_40 rfl 1 rfl ?_
      refine G.iadd (pc := 41) cx dL_earned_41 ?_
      refine G.iload (pc := 42) cx dL_earned_42 0 rfl ?_
      refine G.iadd (pc := 44) cx dL_earned_44 ?_
      refine G.iret (pc := 45) cx rfl dL_earned_45 ?_ ?_ rfl
      · refine congrArg (fun x => some (Value.int x)) ?_
        (try clear hin9); (try clear cx); unfold zEarn zWages; rw [if_neg cq20, if_pos cq36]; grind
      · rfl
  · skip
    refine G.iload_n (pc := 23) cx dL_earned_23 rfl 1 rfl ?_
    refine G.iload (pc := 24) cx dL_earned_24 0 rfl ?_
    refine G.iadd (pc := 26) cx dL_earned_26 ?_
    refine G.iconst (pc := 27) cx dL_earned_27 (v := 2) (by decide) ?_
    refine G.idiv (pc := 28) cx dL_earned_28 (by decide) ?_
    refine G.iret (pc := 29) cx rfl dL_earned_29 ?_ ?_ rfl
    · refine congrArg (fun x => some (Value.int x)) ?_
      (try clear hin9); (try clear cx); unfold zEarn zWages; rw [if_pos cq20]
    · rfl
set_option maxHeartbeats 4000000 in
set_option maxRecDepth 100000 in
theorem c_L_balance (l : Launch) (K : KT) (sz : Nat) (x : Nat) (z : Zt) (s : Ot) (y : Zt) (V : VW) (k : Nat) (hk : k < 16) : Ct l K yL_balance cL_balance 4 (some .int) 1 [.ref (x + 195), .ref (x + 196), .ref (x + 197), .int (nI k)] (xwL K x z s y V) sz (some (.int (zBal y k))) (xwL K x z s y V) sz 0 0 := by
  refine Ct.ofG (by decide) (Nat.le_of_ble_eq_true rfl) ?_
  intro p9 e9 s9 m9 a9 b9 t9 c9 cx hin9
  refine G.lv0 (lv2 := [(0, .ref (x + 195)), (1, .ref (x + 196)), (2, .ref (x + 197)), (3, .int (nI k))]) rfl ?_
  refine G.aload_n (pc := 0) cx dL_balance_0 rfl 0 rfl ?_
  refine G.iconst (pc := 1) cx dL_balance_1 (v := 3) (by decide) ?_
  refine G.iload_n (pc := 2) cx dL_balance_2 rfl 3 rfl ?_
  refine G.imulN (pc := 3) cx dL_balance_3 3 k ?_
  refine G.iconst (pc := 4) cx dL_balance_4 (v := 2) (by decide) ?_
  refine G.iaddN (pc := 5) cx dL_balance_5 (3 * k) 2 ?_
  refine G.ialdV (pc := 6) cx dL_balance_6 xl_a (j := ((3 * k) + 2)) rfl (by omega) (by decide) (xr_a (n := 10 * k + 2) (by omega) (by omega)) ?_
  refine G.iconst (pc := 7) cx dL_balance_7 (v := 2) (by decide) ?_
  refine G.icmp_ne (pc := 8) cx dL_balance_8 (tgt := 15) (by decide) (fun cq8 => ?_) (fun cq8 => ?_)
  · skip
    refine G.aload_n (pc := 15) cx dL_balance_15 rfl 0 rfl ?_
    refine G.aload_n (pc := 16) cx dL_balance_16 rfl 1 rfl ?_
    refine G.iload_n (pc := 17) cx dL_balance_17 rfl 3 rfl ?_
    refine G.callSg (pc := 18) (rest := []) (st1 := [.int (zEarn y k)]) cx (c_L_earned l K sz x z s y V k (by omega)) ok_L_earned dL_balance_18 wm_ml_L_9 rfl rfl (Nat.le_of_ble_eq_true rfl) ⟨Nat.le_of_ble_eq_true rfl, Nat.le_of_ble_eq_true rfl⟩ ⟨Nat.le_of_ble_eq_true rfl, Nat.le_of_ble_eq_true rfl⟩ rfl ?_
    refine G.aload_n (pc := 21) cx dL_balance_21 rfl 1 rfl ?_
    refine G.iconst (pc := 22) cx dL_balance_22 (v := 4) (by decide) ?_
    refine G.iload_n (pc := 23) cx dL_balance_23 rfl 3 rfl ?_
    refine G.imulN (pc := 24) cx dL_balance_24 4 k ?_
    refine G.iconst (pc := 25) cx dL_balance_25 (v := 2) (by decide) ?_
    refine G.iaddN (pc := 26) cx dL_balance_26 (4 * k) 2 ?_
    refine G.ialdV (pc := 27) cx dL_balance_27 xl_b (j := ((4 * k) + 2)) rfl (by omega) (by decide) (xr_b (n := 10 * k + 8) (by omega) (by omega)) ?_
    refine G.iadd (pc := 28) cx dL_balance_28 ?_
    refine G.aload_n (pc := 29) cx dL_balance_29 rfl 2 rfl ?_
    refine G.iconst (pc := 30) cx dL_balance_30 (v := 3) (by decide) ?_
    refine G.iload_n (pc := 31) cx dL_balance_31 rfl 3 rfl ?_
    refine G.imulN (pc := 32) cx dL_balance_32 3 k ?_
    refine G.ialdV (pc := 33) cx dL_balance_33 xl_c (j := (3 * k)) rfl (by omega) (by decide) (xr_c (n := 10 * k + 5) (by omega) (by omega)) ?_
    refine G.isub (pc := 34) cx dL_balance_34 ?_
    refine G.aload_n (pc := 35) cx dL_balance_35 rfl 2 rfl ?_
    refine G.iconst (pc := 36) cx dL_balance_36 (v := 3) (by decide) ?_
    refine G.iload_n (pc := 37) cx dL_balance_37 rfl 3 rfl ?_
    refine G.imulN (pc := 38) cx dL_balance_38 3 k ?_
    refine G.iconst (pc := 39) cx dL_balance_39 (v := 1) (by decide) ?_
    refine G.iaddN (pc := 40) cx dL_balance_40 (3 * k) 1 ?_
    refine G.ialdV (pc := 41) cx dL_balance_41 xl_c (j := ((3 * k) + 1)) rfl (by omega) (by decide) (xr_c (n := 10 * k + 6) (by omega) (by omega)) ?_
    refine G.isub (pc := 42) cx dL_balance_42 ?_
    refine G.aload_n (pc := 43) cx dL_balance_43 rfl 2 rfl ?_
    refine G.iconst (pc := 44) cx dL_balance_44 (v := 3) (by decide) ?_
    refine G.iload_n (pc := 45) cx dL_balance_45 rfl 3 rfl ?_
    refine G.imulN (pc := 46) cx dL_balance_46 3 k ?_
    refine G.iconst (pc := 47) cx dL_balance_47 (v := 2) (by decide) ?_
    refine G.iaddN (pc := 48) cx dL_balance_48 (3 * k) 2 ?_
    refine G.ialdV (pc := 49) cx dL_balance_49 xl_c (j := ((3 * k) + 2)) rfl (by omega) (by decide) (xr_c (n := 10 * k + 7) (by omega) (by omega)) ?_
    refine G.isub (pc := 50) cx dL_balance_50 ?_
    refine G.iret (pc := 51) cx rfl dL_balance_51 ?_ ?_ rfl
    · refine congrArg (fun x => some (Value.int x)) ?_
      (try clear hin9); (try clear cx); first | exact if_pos cq8 | (rw [show zBal y k = _ from if_neg cq8]; unfold zChg; grind)
    · rfl
  · skip
    refine G.iconst (pc := 11) cx dL_balance_11 (v := 0) (by decide) ?_
    refine G.goto (pc := 12) cx dL_balance_12 (tgt := 51) (by decide) ?_
    refine G.iret (pc := 51) cx rfl dL_balance_51 ?_ ?_ rfl
    · refine congrArg (fun x => some (Value.int x)) ?_
      (try clear hin9); (try clear cx); first | exact if_pos cq8 | (rw [show zBal y k = _ from if_neg cq8]; unfold zChg; grind)
    · rfl
set_option maxHeartbeats 4000000 in
set_option maxRecDepth 100000 in
theorem c_L_why (l : Launch) (K : KT) (sz : Nat) (x : Nat) (z : Zt) (s : Ot) (y : Zt) (V : VW) (k : Nat) (j : Nat) (m : Int32) (hk : k < 16) (hj : j < 6) : Ct l K yL_why cL_why 8 (some .int) 2 [.ref (x + 194), .ref (x + 195), .ref (x + 196), .ref (x + 197), .ref (x + 198), .int (nI k), .int (nI j), .int m] (xwL K x z s y V) sz (some (.int (lWhy y k j m))) (xwL K x z s y V) sz 0 0 := by
  refine Ct.ofG (by decide) (Nat.le_of_ble_eq_true rfl) ?_
  intro p9 e9 s9 m9 a9 b9 t9 c9 cx hin9
  refine G.lv0 (lv2 := [(0, .ref (x + 194)), (1, .ref (x + 195)), (2, .ref (x + 196)), (3, .ref (x + 197)), (4, .ref (x + 198)), (5, .int (nI k)), (6, .int (nI j)), (7, .int m)]) rfl ?_
  refine G.aload_n (pc := 0) cx dL_why_0 rfl 1 rfl ?_
  refine G.iconst (pc := 1) cx dL_why_1 (v := 3) (by decide) ?_
  refine G.iload (pc := 2) cx dL_why_2 5 rfl ?_
  refine G.imulN (pc := 4) cx dL_why_4 3 k ?_
  refine G.iconst (pc := 5) cx dL_why_5 (v := 2) (by decide) ?_
  refine G.iaddN (pc := 6) cx dL_why_6 (3 * k) 2 ?_
  refine G.ialdV (pc := 7) cx dL_why_7 xl_a (j := ((3 * k) + 2)) rfl (by omega) (by decide) (xr_a (n := 10 * k + 2) (by omega) (by omega)) ?_
  refine G.if_le (pc := 8) cx dL_why_8 (tgt := 13) (by decide) (fun cq8 => ?_) (fun cq8 => ?_)
  · skip
    have nq8 := Int32.not_lt.mpr cq8
    refine G.aload (pc := 13) cx dL_why_13 4 rfl ?_
    refine G.iconst (pc := 15) cx dL_why_15 (v := 5) (by decide) ?_
    refine G.iload (pc := 16) cx dL_why_16 6 rfl ?_
    refine G.imulN (pc := 18) cx dL_why_18 5 j ?_
    refine G.ialdV (pc := 19) cx dL_why_19 xl_t (j := (5 * j)) rfl (by omega) (by decide) (xr_t (n := 160 + 5 * j) (by omega) (by omega)) ?_
    refine G.iload (pc := 20) cx dL_why_20 7 rfl ?_
    refine G.icmp_ge (pc := 22) cx dL_why_22 (tgt := 29) (by decide) (fun cq22 => ?_) (fun cq22 => ?_)
    · skip
      have nq22 := Int32.not_lt.mpr cq22
      refine G.aload_n (pc := 29) cx dL_why_29 rfl 1 rfl ?_
      refine G.aload_n (pc := 30) cx dL_why_30 rfl 2 rfl ?_
      refine G.aload_n (pc := 31) cx dL_why_31 rfl 3 rfl ?_
      refine G.iload (pc := 32) cx dL_why_32 5 rfl ?_
      refine G.callSg (pc := 34) (rest := []) (st1 := [.int (zBal y k)]) cx (c_L_balance l K sz x z s y V k (by omega)) ok_L_balance dL_why_34 wm_ml_L_23 rfl rfl (Nat.le_of_ble_eq_true rfl) ⟨Nat.le_of_ble_eq_true rfl, Nat.le_of_ble_eq_true rfl⟩ ⟨Nat.le_of_ble_eq_true rfl, Nat.le_of_ble_eq_true rfl⟩ rfl ?_
      refine G.aload_n (pc := 37) cx dL_why_37 rfl 0 rfl ?_
      refine G.bipush (pc := 38) cx dL_why_38 (v := 13) (by decide) ?_
      refine G.ialdV (pc := 40) cx dL_why_40 xl_g (j := 13) rfl (by omega) (by decide) (xr_g (n := 203) (by omega) (by omega)) ?_
      refine G.iadd (pc := 41) cx dL_why_41 ?_
      refine G.iload (pc := 42) cx dL_why_42 7 rfl ?_
      refine G.aload (pc := 44) cx dL_why_44 4 rfl ?_
      refine G.iconst (pc := 46) cx dL_why_46 (v := 5) (by decide) ?_
      refine G.iload (pc := 47) cx dL_why_47 6 rfl ?_
      refine G.imulN (pc := 49) cx dL_why_49 5 j ?_
      refine G.iconst (pc := 50) cx dL_why_50 (v := 1) (by decide) ?_
      refine G.iaddN (pc := 51) cx dL_why_51 (5 * j) 1 ?_
      refine G.ialdV (pc := 52) cx dL_why_52 xl_t (j := ((5 * j) + 1)) rfl (by omega) (by decide) (xr_t (n := 160 + 5 * j + 1) (by omega) (by omega)) ?_
      refine G.imul (pc := 53) cx dL_why_53 ?_
      refine G.icmp_ge (pc := 54) cx dL_why_54 (tgt := 61) (by decide) (fun cq54 => ?_) (fun cq54 => ?_)
      · skip
        have nq54 := Int32.not_lt.mpr cq54
        refine G.iconst (pc := 61) cx dL_why_61 (v := 0) (by decide) ?_
        refine G.iret (pc := 62) cx rfl dL_why_62 ?_ ?_ rfl
        · refine congrArg (fun x => some (Value.int x)) ?_
          (try clear hin9); (try clear cx); refine (if_neg nq8).trans ?_; first | exact if_pos nq22 | (refine (if_neg nq22).trans ?_; first | exact if_pos nq54 | exact if_neg nq54)
        · rfl
      · skip
        have nq54 := Int32.not_le.mp cq54
        refine G.iconst (pc := 57) cx dL_why_57 (v := 3) (by decide) ?_
        refine G.goto (pc := 58) cx dL_why_58 (tgt := 62) (by decide) ?_
        refine G.iret (pc := 62) cx rfl dL_why_62 ?_ ?_ rfl
        · refine congrArg (fun x => some (Value.int x)) ?_
          (try clear hin9); (try clear cx); refine (if_neg nq8).trans ?_; first | exact if_pos nq22 | (refine (if_neg nq22).trans ?_; first | exact if_pos nq54 | exact if_neg nq54)
        · rfl
    · skip
      have nq22 := Int32.not_le.mp cq22
      refine G.iconst (pc := 25) cx dL_why_25 (v := 2) (by decide) ?_
      refine G.goto (pc := 26) cx dL_why_26 (tgt := 62) (by decide) ?_
      refine G.iret (pc := 62) cx rfl dL_why_62 ?_ ?_ rfl
      · refine congrArg (fun x => some (Value.int x)) ?_
        (try clear hin9); (try clear cx); refine (if_neg nq8).trans ?_; first | exact if_pos nq22 | (refine (if_neg nq22).trans ?_; first | exact if_pos nq54 | exact if_neg nq54)
      · rfl
  · skip
    have nq8 := Int32.not_le.mp cq8
    refine G.iconst (pc := 11) cx dL_why_11 (v := 1) (by decide) ?_
    refine G.iret (pc := 12) cx rfl dL_why_12 ?_ ?_ rfl
    · refine congrArg (fun x => some (Value.int x)) ?_
      (try clear hin9); (try clear cx); exact if_pos nq8
    · rfl
set_option maxHeartbeats 4000000 in
set_option maxRecDepth 100000 in
theorem c_L_spend (l : Launch) (K : KT) (sz : Nat) (x : Nat) (z : Zt) (s : Ot) (y : Zt) (V : VW) (v : Int32)  : Ct l K yL_spend cL_spend 3 none 0 [.ref (x + 194), .int v] (xwL K x z s y V) sz none (xwL K x z s (zSpend y v) V) sz 0 0 := by
  refine Ct.ofG (by decide) (Nat.le_of_ble_eq_true rfl) ?_
  intro p9 e9 s9 m9 a9 b9 t9 c9 cx hin9
  refine G.lv0 (lv2 := [(0, .ref (x + 194)), (1, .int v)]) rfl ?_
  refine G.iload_n (pc := 0) cx dL_spend_0 rfl 1 rfl ?_
  refine G.aload_n (pc := 1) cx dL_spend_1 rfl 0 rfl ?_
  refine G.iconst (pc := 2) cx dL_spend_2 (v := 5) (by decide) ?_
  refine G.ialdV (pc := 3) cx dL_spend_3 xl_g (j := 5) rfl (by omega) (by decide) (xr_g (n := 195) (by omega) (by omega)) ?_
  refine G.icmp_le (pc := 4) cx dL_spend_4 (tgt := 15) (by decide) (fun cq4 => ?_) (fun cq4 => ?_)
  · skip
    have nq4 := Int32.not_lt.mpr cq4
    refine G.iconst (pc := 15) cx dL_spend_15 (v := 0) (by decide) ?_
    refine G.istore_n (pc := 16) cx dL_spend_16 rfl (by decide) rfl ?_
    refine G.aload_n (pc := 17) cx dL_spend_17 rfl 1 rfl ?_
    refine G.bipush (pc := 18) cx dL_spend_18 (v := 6) (by decide) ?_
    refine G.dup2 (pc := 20) cx dL_spend_20 rfl rfl ?_
    refine G.ialdV (pc := 21) cx dL_spend_21 xl_g (j := 6) rfl (by omega) (by decide) (xr_g (n := 196) (by omega) (by omega)) ?_
    refine G.iload_n (pc := 22) cx dL_spend_22 rfl 0 rfl ?_
    refine G.iadd (pc := 23) cx dL_spend_23 ?_
    refine G.iastC (pc := 24) cx dL_spend_24 xl_g (j := 6) rfl (by omega) (by decide) (xs_g (n := 196) (by omega) (by omega)) ?_
    refine G.aload_n (pc := 25) cx dL_spend_25 rfl 1 rfl ?_
    refine G.iconst (pc := 26) cx dL_spend_26 (v := 5) (by decide) ?_
    refine G.dup2 (pc := 27) cx dL_spend_27 rfl rfl ?_
    refine G.ialdV (pc := 28) cx dL_spend_28 xl_g (j := 5) rfl (by omega) (by decide) ((xr_g (n := 195) (by omega) (by omega)).trans (upd_n (i := 196) (j := 195) y ((y 196) + 0) (by omega))) ?_
    refine G.iload_n (pc := 29) cx dL_spend_29 rfl 0 rfl ?_
    refine G.iload_n (pc := 30) cx dL_spend_30 rfl 2 rfl ?_
    refine G.isub (pc := 31) cx dL_spend_31 ?_
    refine G.iadd (pc := 32) cx dL_spend_32 ?_
    refine G.iastC (pc := 33) cx dL_spend_33 xl_g (j := 5) rfl (by omega) (by decide) (xs_g (n := 195) (by omega) (by omega)) ?_
    refine G.vret (pc := 34) cx rfl dL_spend_34 rfl ?_ rfl
    · refine congrArg (fun q9 => xwL K x z s q9 V) ?_
      (try clear hin9); (try clear cx); unfold zSpend; first | (rw [if_neg nq4, if_neg nq4]; congr 1; grind) | (rw [if_pos nq4, if_pos nq4]; congr 1; grind)
  · skip
    have nq4 := Int32.not_le.mp cq4
    refine G.iload_n (pc := 7) cx dL_spend_7 rfl 1 rfl ?_
    refine G.aload_n (pc := 8) cx dL_spend_8 rfl 0 rfl ?_
    refine G.iconst (pc := 9) cx dL_spend_9 (v := 5) (by decide) ?_
    refine G.ialdV (pc := 10) cx dL_spend_10 xl_g (j := 5) rfl (by omega) (by decide) (xr_g (n := 195) (by omega) (by omega)) ?_
    refine G.isub (pc := 11) cx dL_spend_11 ?_
    refine G.goto (pc := 12) cx dL_spend_12 (tgt := 16) (by decide) ?_
    refine G.istore_n (pc := 16) cx dL_spend_16 rfl (by decide) rfl ?_
    refine G.aload_n (pc := 17) cx dL_spend_17 rfl 1 rfl ?_
    refine G.bipush (pc := 18) cx dL_spend_18 (v := 6) (by decide) ?_
    refine G.dup2 (pc := 20) cx dL_spend_20 rfl rfl ?_
    refine G.ialdV (pc := 21) cx dL_spend_21 xl_g (j := 6) rfl (by omega) (by decide) (xr_g (n := 196) (by omega) (by omega)) ?_
    refine G.iload_n (pc := 22) cx dL_spend_22 rfl 0 rfl ?_
    refine G.iadd (pc := 23) cx dL_spend_23 ?_
    refine G.iastC (pc := 24) cx dL_spend_24 xl_g (j := 6) rfl (by omega) (by decide) (xs_g (n := 196) (by omega) (by omega)) ?_
    refine G.aload_n (pc := 25) cx dL_spend_25 rfl 1 rfl ?_
    refine G.iconst (pc := 26) cx dL_spend_26 (v := 5) (by decide) ?_
    refine G.dup2 (pc := 27) cx dL_spend_27 rfl rfl ?_
    refine G.ialdV (pc := 28) cx dL_spend_28 xl_g (j := 5) rfl (by omega) (by decide) ((xr_g (n := 195) (by omega) (by omega)).trans (upd_n (i := 196) (j := 195) y ((y 196) + (v - (y 195))) (by omega))) ?_
    refine G.iload_n (pc := 29) cx dL_spend_29 rfl 0 rfl ?_
    refine G.iload_n (pc := 30) cx dL_spend_30 rfl 2 rfl ?_
    refine G.isub (pc := 31) cx dL_spend_31 ?_
    refine G.iadd (pc := 32) cx dL_spend_32 ?_
    refine G.iastC (pc := 33) cx dL_spend_33 xl_g (j := 5) rfl (by omega) (by decide) (xs_g (n := 195) (by omega) (by omega)) ?_
    refine G.vret (pc := 34) cx rfl dL_spend_34 rfl ?_ rfl
    · refine congrArg (fun q9 => xwL K x z s q9 V) ?_
      (try clear hin9); (try clear cx); unfold zSpend; first | (rw [if_neg nq4, if_neg nq4]; congr 1; grind) | (rw [if_pos nq4, if_pos nq4]; congr 1; grind)
set_option maxHeartbeats 4000000 in
set_option maxRecDepth 100000 in
theorem c_L_write (l : Launch) (K : KT) (sz : Nat) (x : Nat) (z : Zt) (s : Ot) (y : Zt) (V : VW) (a : Int32) (q : Int32) (v : Int32) (E : Nat) (hE : y 206 = nI E) (hE8 : E ≤ 8) : Ct l K yL_write cL_write 6 none 0 [.ref (x + 194), .ref (x + 199), .int a, .int q, .int v] (xwL K x z s y V) sz none (xwL K x z s (zWrite y a q v) V) sz 0 0 := by
  refine Ct.ofG (by decide) (Nat.le_of_ble_eq_true rfl) ?_
  intro p9 e9 s9 m9 a9 b9 t9 c9 cx hin9
  refine G.lv0 (lv2 := [(0, .ref (x + 194)), (1, .ref (x + 199)), (2, .int a), (3, .int q), (4, .int v)]) rfl ?_
  refine G.iload (pc := 0) cx dL_write_0 4 rfl ?_
  refine G.if_ne (pc := 2) cx dL_write_2 (tgt := 6) (by decide) (fun cq2 => ?_) (fun cq2 => ?_)
  · skip
    refine G.bipush (pc := 6) cx dL_write_6 (v := 23) (by decide) ?_
    refine G.istore (pc := 8) cx dL_write_8 (by decide) rfl ?_
    have L10_1 : ∀ (fz k10 : Nat), 21 - k10 < fz → k10 ≤ 21 → G K p9 l e9 (rmL 0 0 0) s9 m9 a9 b9 t9 c9 (MQ b9 (QCt K none (xwL K x z s (zWrite y a q v) V) sz) a9 s9 0 0 (kA K)) 6 (xwL K x z s (zShift y (24 - k10)) V) sz 0 0 10 [(5, .int (nI (23 - k10))), (0, .ref (x + 194)), (1, .ref (x + 199)), (2, .int a), (3, .int q), (4, .int v)] [] := by
      intro fz
      induction fz with
      | zero => intro k10 h9; omega
      | succ fz ih10 =>
        intro k10 h910 h810
        refine G.iload (pc := 10) cx dL_write_10 0 rfl ?_
        refine G.iconst (pc := 12) cx dL_write_12 (v := 2) (by decide) ?_
        refine G.icmp_leN (pc := 13) cx (23 - k10) 2 (by omega) (by omega) dL_write_13 (tgt := 32) (by decide) (fun cq13 => ?_) (fun cq13 => ?_)
        · skip
          have nq13 := Nat.not_lt.mpr cq13
          have ex10 : k10 = 21 := by omega
          try rw [ex10]
          refine G.aload_n (pc := 32) cx dL_write_32 rfl 2 rfl ?_
          refine G.iconst (pc := 33) cx dL_write_33 (v := 0) (by decide) ?_
          refine G.iload_n (pc := 34) cx dL_write_34 rfl 3 rfl ?_
          refine G.iastC (pc := 35) cx dL_write_35 xl_k (j := 0) rfl (by omega) (by decide) (xs_k (n := 207) (by omega) (by omega)) ?_
          refine G.aload_n (pc := 36) cx dL_write_36 rfl 2 rfl ?_
          refine G.iconst (pc := 37) cx dL_write_37 (v := 1) (by decide) ?_
          refine G.iload_n (pc := 38) cx dL_write_38 rfl 4 rfl ?_
          refine G.iastC (pc := 39) cx dL_write_39 xl_k (j := 1) rfl (by omega) (by decide) (xs_k (n := 208) (by omega) (by omega)) ?_
          refine G.aload_n (pc := 40) cx dL_write_40 rfl 2 rfl ?_
          refine G.iconst (pc := 41) cx dL_write_41 (v := 2) (by decide) ?_
          refine G.iload (pc := 42) cx dL_write_42 5 rfl ?_
          refine G.iastC (pc := 44) cx dL_write_44 xl_k (j := 2) rfl (by omega) (by decide) (xs_k (n := 209) (by omega) (by omega)) ?_
          refine G.aload_n (pc := 45) cx dL_write_45 rfl 1 rfl ?_
          refine G.bipush (pc := 46) cx dL_write_46 (v := 16) (by decide) ?_
          refine G.aload_n (pc := 48) cx dL_write_48 rfl 1 rfl ?_
          refine G.bipush (pc := 49) cx dL_write_49 (v := 16) (by decide) ?_
          refine G.ialdV (pc := 51) cx dL_write_51 xl_g (j := 16) rfl (by omega) (by decide) ((xr_g (n := 206) (by omega) (by omega)).trans ((upd_n (i := 209) (j := 206) (upd (upd (zShift y (24 - 21)) 207 a) 208 q) v (by omega)).trans ((upd_n (i := 208) (j := 206) (upd (zShift y (24 - 21)) 207 a) q (by omega)).trans ((upd_n (i := 207) (j := 206) (zShift y (24 - 21)) a (by omega)).trans ((show zShift y (24 - 21) 206 = nI E from (if_neg (by omega)).trans hE)))))) ?_
          refine G.bipush (pc := 52) cx dL_write_52 (v := 8) (by decide) ?_
          refine G.icmp_neN (pc := 54) cx E 8 (by omega) (by omega) dL_write_54 (tgt := 62) (by decide) (fun cq54 => ?_) (fun cq54 => ?_)
          · skip
            refine G.aload_n (pc := 62) cx dL_write_62 rfl 1 rfl ?_
            refine G.bipush (pc := 63) cx dL_write_63 (v := 16) (by decide) ?_
            refine G.ialdV (pc := 65) cx dL_write_65 xl_g (j := 16) rfl (by omega) (by decide) ((xr_g (n := 206) (by omega) (by omega)).trans ((upd_n (i := 209) (j := 206) (upd (upd (zShift y (24 - 21)) 207 a) 208 q) v (by omega)).trans ((upd_n (i := 208) (j := 206) (upd (zShift y (24 - 21)) 207 a) q (by omega)).trans ((upd_n (i := 207) (j := 206) (zShift y (24 - 21)) a (by omega)).trans ((show zShift y (24 - 21) 206 = nI E from (if_neg (by omega)).trans hE)))))) ?_
            refine G.iconst (pc := 66) cx dL_write_66 (v := 1) (by decide) ?_
            refine G.iaddN (pc := 67) cx dL_write_67 E 1 ?_
            refine G.iastC (pc := 68) cx dL_write_68 xl_g (j := 16) rfl (by omega) (by decide) (xs_g (n := 206) (by omega) (by omega)) ?_
            refine G.vret (pc := 69) cx rfl dL_write_69 rfl ?_ rfl
            · refine congrArg (fun q9 => xwL K x z s q9 V) ?_
              (try clear L10_1); (try clear ih10); (try clear hin9); (try clear cx); unfold zWrite; rw [if_neg cq2, hE, ent_up hE8]; first | (rw [if_pos cq54]; first | done | rfl) | (rw [if_neg cq54]; first | done | rfl)
          · skip
            refine G.bipush (pc := 57) cx dL_write_57 (v := 8) (by decide) ?_
            refine G.goto (pc := 59) cx dL_write_59 (tgt := 68) (by decide) ?_
            refine G.iastC (pc := 68) cx dL_write_68 xl_g (j := 16) rfl (by omega) (by decide) (xs_g (n := 206) (by omega) (by omega)) ?_
            refine G.vret (pc := 69) cx rfl dL_write_69 rfl ?_ rfl
            · refine congrArg (fun q9 => xwL K x z s q9 V) ?_
              (try clear L10_1); (try clear ih10); (try clear hin9); (try clear cx); unfold zWrite; rw [if_neg cq2, hE, ent_up hE8]; first | (rw [if_pos cq54]; first | done | rfl) | (rw [if_neg cq54]; first | done | rfl)
        · skip
          have nq13 := Nat.not_le.mpr cq13
          refine G.aload_n (pc := 16) cx dL_write_16 rfl 2 rfl ?_
          refine G.iload (pc := 17) cx dL_write_17 0 rfl ?_
          refine G.aload_n (pc := 19) cx dL_write_19 rfl 2 rfl ?_
          refine G.iload (pc := 20) cx dL_write_20 0 rfl ?_
          refine G.iconst (pc := 22) cx dL_write_22 (v := 3) (by decide) ?_
          refine G.isubN (pc := 23) cx dL_write_23 (23 - k10) 3 (by omega) ?_
          refine G.ialdV (pc := 24) cx dL_write_24 xl_k (j := ((23 - k10) - 3)) rfl (by omega) (by decide) (xr_k (n := 207 + ((23 - k10) - 3)) (by omega) (by omega)) ?_
          refine G.iastC (pc := 25) cx dL_write_25 xl_k (j := (23 - k10)) rfl (by omega) (by decide) (xs_k (n := 207 + (23 - k10)) (by omega) (by omega)) ?_
          refine G.iinc (pc := 26) cx dL_write_26 (v := nI (23 - (k10 + 1))) (k := 0) rfl (nI_dec (by omega)) (by decide) rfl ?_
          refine G.goto (pc := 29) cx dL_write_29 (tgt := 10) (by decide) ?_
          refine G.cast (V' := (xwL K x z s (zShift y (24 - (k10 + 1))) V)) (congrArg (fun q9 => xwL K x z s q9 V) (show (upd (zShift y (24 - k10)) (207 + (23 - k10)) ((zShift y (24 - k10)) (207 + ((23 - k10) - 3)))) = (zShift y (24 - (k10 + 1))) from by have e9 := zShift_step y (lo := 23 - k10) (by omega) (by omega); rw [show 23 - k10 + 1 = 24 - k10 by omega, show 207 + (23 - k10) - 3 = 207 + (23 - k10 - 3) by omega] at e9; exact e9.trans (congrArg (zShift y) (by omega)))) ?_
          exact ih10 (k10 + 1) (by omega) (by omega)
    refine G.cast (V' := (xwL K x z s (zShift y (24 - 0)) V)) (congrArg (fun q9 => xwL K x z s q9 V) (show y = (zShift y (24 - 0)) from by first | exact (zShift_top y).symm | rfl)) ?_
    refine G.lv0 (lv2 := [(5, .int (nI (23 - 0))), (0, .ref (x + 194)), (1, .ref (x + 199)), (2, .int a), (3, .int q), (4, .int v)]) (congrArg (fun q9 => ([(5, .int q9), (0, .ref (x + 194)), (1, .ref (x + 199)), (2, .int a), (3, .int q), (4, .int v)] : List (Nat × Value))) (show (23 : Int32) = nI (23 - 0) from by first | exact (zShift_top y).symm | rfl)) ?_
    exact L10_1 (21 + 1) 0 (by omega) (by omega)
  · skip
    refine G.vret (pc := 5) cx rfl dL_write_5 rfl ?_ rfl
    · refine congrArg (fun q9 => xwL K x z s q9 V) ?_
      (try clear L10_1); (try clear ih10); (try clear hin9); (try clear cx); exact (if_pos cq2).symm
set_option maxHeartbeats 4000000 in
set_option maxRecDepth 100000 in
theorem c_L_fine (l : Launch) (K : KT) (sz : Nat) (x : Nat) (z : Zt) (s : Ot) (y : Zt) (V : VW) (i : Nat) (v : Int32) (E : Nat) (hi : i < 16) (hE : y 206 = nI E) (hE8 : E ≤ 8) : Ct l K yL_fine cL_fine 5 none 1 [.ref (x + 194), .ref (x + 197), .ref (x + 199), .int (nI i), .int v] (xwL K x z s y V) sz none (xwL K x z s (zFn y i v) V) sz 0 0 := by
  refine Ct.ofG (by decide) (Nat.le_of_ble_eq_true rfl) ?_
  intro p9 e9 s9 m9 a9 b9 t9 c9 cx hin9
  refine G.lv0 (lv2 := [(0, .ref (x + 194)), (1, .ref (x + 197)), (2, .ref (x + 199)), (3, .int (nI i)), (4, .int v)]) rfl ?_
  refine G.aload_n (pc := 0) cx dL_fine_0 rfl 1 rfl ?_
  refine G.iconst (pc := 1) cx dL_fine_1 (v := 3) (by decide) ?_
  refine G.iload_n (pc := 2) cx dL_fine_2 rfl 3 rfl ?_
  refine G.imulN (pc := 3) cx dL_fine_3 3 i ?_
  refine G.iconst (pc := 4) cx dL_fine_4 (v := 1) (by decide) ?_
  refine G.iaddN (pc := 5) cx dL_fine_5 (3 * i) 1 ?_
  refine G.dup2 (pc := 6) cx dL_fine_6 rfl rfl ?_
  refine G.ialdV (pc := 7) cx dL_fine_7 xl_c (j := ((3 * i) + 1)) rfl (by omega) (by decide) (xr_c (n := 10 * i + 6) (by omega) (by omega)) ?_
  refine G.iload (pc := 8) cx dL_fine_8 4 rfl ?_
  refine G.iadd (pc := 10) cx dL_fine_10 ?_
  refine G.iastC (pc := 11) cx dL_fine_11 xl_c (j := ((3 * i) + 1)) rfl (by omega) (by decide) (xs_c (n := 10 * i + 6) (by omega) (by omega)) ?_
  refine G.aload_n (pc := 12) cx dL_fine_12 rfl 0 rfl ?_
  refine G.bipush (pc := 13) cx dL_fine_13 (v := 11) (by decide) ?_
  refine G.dup2 (pc := 15) cx dL_fine_15 rfl rfl ?_
  refine G.ialdV (pc := 16) cx dL_fine_16 xl_g (j := 11) rfl (by omega) (by decide) ((xr_g (n := 201) (by omega) (by omega)).trans (upd_n (i := 10 * i + 6) (j := 201) y ((y (10 * i + 6)) + v) (by omega))) ?_
  refine G.iload (pc := 17) cx dL_fine_17 4 rfl ?_
  refine G.iadd (pc := 19) cx dL_fine_19 ?_
  refine G.iastC (pc := 20) cx dL_fine_20 xl_g (j := 11) rfl (by omega) (by decide) (xs_g (n := 201) (by omega) (by omega)) ?_
  refine G.aload_n (pc := 21) cx dL_fine_21 rfl 0 rfl ?_
  refine G.aload_n (pc := 22) cx dL_fine_22 rfl 2 rfl ?_
  refine G.iload_n (pc := 23) cx dL_fine_23 rfl 3 rfl ?_
  refine G.iconst (pc := 24) cx dL_fine_24 (v := 1) (by decide) ?_
  refine G.iload (pc := 25) cx dL_fine_25 4 rfl ?_
  refine G.callSg (pc := 27) (rest := []) (st1 := []) cx (c_L_write l K sz x z s (upd (upd y (10 * i + 6) ((y (10 * i + 6)) + v)) 201 ((y 201) + v)) V (nI i) 1 v E (by first | exact hE | (rw [upd_n _ _ (by omega)]; exact hE) | (rw [upd_n _ _ (by omega), upd_n _ _ (by omega)]; exact hE) | (rw [upd_n _ _ (by omega), upd_n _ _ (by omega), upd_n _ _ (by omega)]; exact hE) | (rw [upd_n _ _ (by omega), upd_n _ _ (by omega), upd_n _ _ (by omega), upd_n _ _ (by omega)]; exact hE) | (rw [upd_n _ _ (by omega), upd_n _ _ (by omega), upd_n _ _ (by omega), upd_n _ _ (by omega), upd_n _ _ (by omega)]; exact hE) | (rw [upd_n _ _ (by omega), upd_n _ _ (by omega), upd_n _ _ (by omega), upd_n _ _ (by omega), upd_n _ _ (by omega), upd_n _ _ (by omega)]; exact hE)) (by omega)) ok_L_write dL_fine_27 wm_ml_L_15 rfl rfl (Nat.le_of_ble_eq_true rfl) ⟨Nat.le_of_ble_eq_true rfl, Nat.le_of_ble_eq_true rfl⟩ ⟨Nat.le_of_ble_eq_true rfl, Nat.le_of_ble_eq_true rfl⟩ rfl ?_
  refine G.vret (pc := 30) cx rfl dL_fine_30 rfl ?_ rfl
  · refine congrArg (fun q9 => xwL K x z s q9 V) ?_
    (try clear hin9); (try clear cx); rfl
set_option maxHeartbeats 4000000 in
set_option maxRecDepth 100000 in
theorem c_L_pay (l : Launch) (K : KT) (sz : Nat) (x : Nat) (z : Zt) (s : Ot) (y : Zt) (V : VW) (i : Nat) (v : Int32) (E : Nat) (hi : i < 16) (hE : y 206 = nI E) (hE8 : E ≤ 8) : Ct l K yL_pay cL_pay 5 none 1 [.ref (x + 194), .ref (x + 196), .ref (x + 199), .int (nI i), .int v] (xwL K x z s y V) sz none (xwL K x z s (zPay y i v) V) sz 0 0 := by
  refine Ct.ofG (by decide) (Nat.le_of_ble_eq_true rfl) ?_
  intro p9 e9 s9 m9 a9 b9 t9 c9 cx hin9
  refine G.lv0 (lv2 := [(0, .ref (x + 194)), (1, .ref (x + 196)), (2, .ref (x + 199)), (3, .int (nI i)), (4, .int v)]) rfl ?_
  refine G.aload_n (pc := 0) cx dL_pay_0 rfl 1 rfl ?_
  refine G.iconst (pc := 1) cx dL_pay_1 (v := 4) (by decide) ?_
  refine G.iload_n (pc := 2) cx dL_pay_2 rfl 3 rfl ?_
  refine G.imulN (pc := 3) cx dL_pay_3 4 i ?_
  refine G.iconst (pc := 4) cx dL_pay_4 (v := 3) (by decide) ?_
  refine G.iaddN (pc := 5) cx dL_pay_5 (4 * i) 3 ?_
  refine G.dup2 (pc := 6) cx dL_pay_6 rfl rfl ?_
  refine G.ialdV (pc := 7) cx dL_pay_7 xl_b (j := ((4 * i) + 3)) rfl (by omega) (by decide) (xr_b (n := 10 * i + 9) (by omega) (by omega)) ?_
  refine G.iload (pc := 8) cx dL_pay_8 4 rfl ?_
  refine G.iadd (pc := 10) cx dL_pay_10 ?_
  refine G.iastC (pc := 11) cx dL_pay_11 xl_b (j := ((4 * i) + 3)) rfl (by omega) (by decide) (xs_b (n := 10 * i + 9) (by omega) (by omega)) ?_
  refine G.aload_n (pc := 12) cx dL_pay_12 rfl 0 rfl ?_
  refine G.bipush (pc := 13) cx dL_pay_13 (v := 9) (by decide) ?_
  refine G.dup2 (pc := 15) cx dL_pay_15 rfl rfl ?_
  refine G.ialdV (pc := 16) cx dL_pay_16 xl_g (j := 9) rfl (by omega) (by decide) ((xr_g (n := 199) (by omega) (by omega)).trans (upd_n (i := 10 * i + 9) (j := 199) y ((y (10 * i + 9)) + v) (by omega))) ?_
  refine G.iload (pc := 17) cx dL_pay_17 4 rfl ?_
  refine G.iadd (pc := 19) cx dL_pay_19 ?_
  refine G.iastC (pc := 20) cx dL_pay_20 xl_g (j := 9) rfl (by omega) (by decide) (xs_g (n := 199) (by omega) (by omega)) ?_
  refine G.aload_n (pc := 21) cx dL_pay_21 rfl 0 rfl ?_
  refine G.iload (pc := 22) cx dL_pay_22 4 rfl ?_
  refine G.callSg (pc := 24) (rest := []) (st1 := []) cx (c_L_spend l K sz x z s (upd (upd y (10 * i + 9) ((y (10 * i + 9)) + v)) 199 ((y 199) + v)) V v) ok_L_spend dL_pay_24 wm_ml_L_19 rfl rfl (Nat.le_of_ble_eq_true rfl) ⟨Nat.le_of_ble_eq_true rfl, Nat.le_of_ble_eq_true rfl⟩ ⟨Nat.le_of_ble_eq_true rfl, Nat.le_of_ble_eq_true rfl⟩ rfl ?_
  refine G.aload_n (pc := 27) cx dL_pay_27 rfl 0 rfl ?_
  refine G.aload_n (pc := 28) cx dL_pay_28 rfl 2 rfl ?_
  refine G.iload_n (pc := 29) cx dL_pay_29 rfl 3 rfl ?_
  refine G.iconst (pc := 30) cx dL_pay_30 (v := 3) (by decide) ?_
  refine G.iload (pc := 31) cx dL_pay_31 4 rfl ?_
  refine G.callSg (pc := 33) (rest := []) (st1 := []) cx (c_L_write l K sz x z s (zSpend (upd (upd y (10 * i + 9) ((y (10 * i + 9)) + v)) 199 ((y 199) + v)) v) V (nI i) 3 v E (by rw [zSpend_o _ _ (by omega) (by omega), upd_n _ _ (by omega), upd_n _ _ (by omega)]; exact hE) (by omega)) ok_L_write dL_pay_33 wm_ml_L_15 rfl rfl (Nat.le_of_ble_eq_true rfl) ⟨Nat.le_of_ble_eq_true rfl, Nat.le_of_ble_eq_true rfl⟩ ⟨Nat.le_of_ble_eq_true rfl, Nat.le_of_ble_eq_true rfl⟩ rfl ?_
  refine G.vret (pc := 36) cx rfl dL_pay_36 rfl ?_ rfl
  · refine congrArg (fun q9 => xwL K x z s q9 V) ?_
    (try clear hin9); (try clear cx); rfl
set_option maxHeartbeats 4000000 in
set_option maxRecDepth 100000 in
theorem c_L_clear (l : Launch) (K : KT) (sz : Nat) (x : Nat) (z : Zt) (s : Ot) (y : Zt) (V : VW) (i : Nat) (v : Int32) (hi : i < 16) : Ct l K yL_clear cL_clear 5 none 0 [.ref (x + 196), .ref (x + 197), .int (nI i), .int v] (xwL K x z s y V) sz none (xwL K x z s (upd (zClear y i) (10 * i + 8) v) V) sz 0 0 := by
  refine Ct.ofG (by decide) (Nat.le_of_ble_eq_true rfl) ?_
  intro p9 e9 s9 m9 a9 b9 t9 c9 cx hin9
  refine G.lv0 (lv2 := [(0, .ref (x + 196)), (1, .ref (x + 197)), (2, .int (nI i)), (3, .int v)]) rfl ?_
  refine G.aload_n (pc := 0) cx dL_clear_0 rfl 0 rfl ?_
  refine G.iconst (pc := 1) cx dL_clear_1 (v := 4) (by decide) ?_
  refine G.iload_n (pc := 2) cx dL_clear_2 rfl 2 rfl ?_
  refine G.imulN (pc := 3) cx dL_clear_3 4 i ?_
  refine G.iconst (pc := 4) cx dL_clear_4 (v := 0) (by decide) ?_
  refine G.iastC (pc := 5) cx dL_clear_5 xl_b (j := (4 * i)) rfl (by omega) (by decide) (xs_b (n := 10 * i + 3) (by omega) (by omega)) ?_
  refine G.aload_n (pc := 6) cx dL_clear_6 rfl 0 rfl ?_
  refine G.iconst (pc := 7) cx dL_clear_7 (v := 4) (by decide) ?_
  refine G.iload_n (pc := 8) cx dL_clear_8 rfl 2 rfl ?_
  refine G.imulN (pc := 9) cx dL_clear_9 4 i ?_
  refine G.iconst (pc := 10) cx dL_clear_10 (v := 1) (by decide) ?_
  refine G.iaddN (pc := 11) cx dL_clear_11 (4 * i) 1 ?_
  refine G.iconst (pc := 12) cx dL_clear_12 (v := 0) (by decide) ?_
  refine G.iastC (pc := 13) cx dL_clear_13 xl_b (j := ((4 * i) + 1)) rfl (by omega) (by decide) (xs_b (n := 10 * i + 4) (by omega) (by omega)) ?_
  refine G.aload_n (pc := 14) cx dL_clear_14 rfl 0 rfl ?_
  refine G.iconst (pc := 15) cx dL_clear_15 (v := 4) (by decide) ?_
  refine G.iload_n (pc := 16) cx dL_clear_16 rfl 2 rfl ?_
  refine G.imulN (pc := 17) cx dL_clear_17 4 i ?_
  refine G.iconst (pc := 18) cx dL_clear_18 (v := 2) (by decide) ?_
  refine G.iaddN (pc := 19) cx dL_clear_19 (4 * i) 2 ?_
  refine G.iload_n (pc := 20) cx dL_clear_20 rfl 3 rfl ?_
  refine G.iastC (pc := 21) cx dL_clear_21 xl_b (j := ((4 * i) + 2)) rfl (by omega) (by decide) (xs_b (n := 10 * i + 8) (by omega) (by omega)) ?_
  refine G.iconst (pc := 22) cx dL_clear_22 (v := 0) (by decide) ?_
  refine G.istore (pc := 23) cx dL_clear_23 (by decide) rfl ?_
  refine G.iload (pc := 25) cx dL_clear_25 0 rfl ?_
  refine G.iconst (pc := 27) cx dL_clear_27 (v := 3) (by decide) ?_
  refine G.icmp_geN (pc := 28) cx 0 3 (by omega) (by omega) dL_clear_28 (tgt := 46) (by decide) (fun h9 => by omega) (fun _ => ?_)
  refine G.aload_n (pc := 31) cx dL_clear_31 rfl 2 rfl ?_
  refine G.iconst (pc := 32) cx dL_clear_32 (v := 3) (by decide) ?_
  refine G.iload_n (pc := 33) cx dL_clear_33 rfl 3 rfl ?_
  refine G.imulN (pc := 34) cx dL_clear_34 3 i ?_
  refine G.iload (pc := 35) cx dL_clear_35 0 rfl ?_
  refine G.iaddN (pc := 37) cx dL_clear_37 (3 * i) 0 ?_
  refine G.iconst (pc := 38) cx dL_clear_38 (v := 0) (by decide) ?_
  refine G.iastC (pc := 39) cx dL_clear_39 xl_c (j := ((3 * i) + 0)) rfl (by omega) (by decide) (xs_c (n := 10 * i + 5) (by omega) (by omega)) ?_
  refine G.iinc (pc := 40) cx dL_clear_40 (v := 1) (k := 0) rfl (by decide) (by decide) rfl ?_
  refine G.goto (pc := 43) cx dL_clear_43 (tgt := 25) (by decide) ?_
  refine G.iload (pc := 25) cx dL_clear_25 0 rfl ?_
  refine G.iconst (pc := 27) cx dL_clear_27 (v := 3) (by decide) ?_
  refine G.icmp_geN (pc := 28) cx 1 3 (by omega) (by omega) dL_clear_28 (tgt := 46) (by decide) (fun h9 => by omega) (fun _ => ?_)
  refine G.aload_n (pc := 31) cx dL_clear_31 rfl 2 rfl ?_
  refine G.iconst (pc := 32) cx dL_clear_32 (v := 3) (by decide) ?_
  refine G.iload_n (pc := 33) cx dL_clear_33 rfl 3 rfl ?_
  refine G.imulN (pc := 34) cx dL_clear_34 3 i ?_
  refine G.iload (pc := 35) cx dL_clear_35 0 rfl ?_
  refine G.iaddN (pc := 37) cx dL_clear_37 (3 * i) 1 ?_
  refine G.iconst (pc := 38) cx dL_clear_38 (v := 0) (by decide) ?_
  refine G.iastC (pc := 39) cx dL_clear_39 xl_c (j := ((3 * i) + 1)) rfl (by omega) (by decide) (xs_c (n := 10 * i + 6) (by omega) (by omega)) ?_
  refine G.iinc (pc := 40) cx dL_clear_40 (v := 2) (k := 0) rfl (by decide) (by decide) rfl ?_
  refine G.goto (pc := 43) cx dL_clear_43 (tgt := 25) (by decide) ?_
  refine G.iload (pc := 25) cx dL_clear_25 0 rfl ?_
  refine G.iconst (pc := 27) cx dL_clear_27 (v := 3) (by decide) ?_
  refine G.icmp_geN (pc := 28) cx 2 3 (by omega) (by omega) dL_clear_28 (tgt := 46) (by decide) (fun h9 => by omega) (fun _ => ?_)
  refine G.aload_n (pc := 31) cx dL_clear_31 rfl 2 rfl ?_
  refine G.iconst (pc := 32) cx dL_clear_32 (v := 3) (by decide) ?_
  refine G.iload_n (pc := 33) cx dL_clear_33 rfl 3 rfl ?_
  refine G.imulN (pc := 34) cx dL_clear_34 3 i ?_
  refine G.iload (pc := 35) cx dL_clear_35 0 rfl ?_
  refine G.iaddN (pc := 37) cx dL_clear_37 (3 * i) 2 ?_
  refine G.iconst (pc := 38) cx dL_clear_38 (v := 0) (by decide) ?_
  refine G.iastC (pc := 39) cx dL_clear_39 xl_c (j := ((3 * i) + 2)) rfl (by omega) (by decide) (xs_c (n := 10 * i + 7) (by omega) (by omega)) ?_
  refine G.iinc (pc := 40) cx dL_clear_40 (v := 3) (k := 0) rfl (by decide) (by decide) rfl ?_
  refine G.goto (pc := 43) cx dL_clear_43 (tgt := 25) (by decide) ?_
  refine G.iload (pc := 25) cx dL_clear_25 0 rfl ?_
  refine G.iconst (pc := 27) cx dL_clear_27 (v := 3) (by decide) ?_
  refine G.icmp_geN (pc := 28) cx 3 3 (by omega) (by omega) dL_clear_28 (tgt := 46) (by decide) (fun _ => ?_) (fun h9 => by omega)
  refine G.vret (pc := 46) cx rfl dL_clear_46 rfl ?_ rfl
  · refine congrArg (fun q9 => xwL K x z s q9 V) ?_
    (try clear hin9); (try clear cx); exact clr_eq y i v
