/-! THE LAW'S QUESTIONS: all of them are answered as its own numbers say -/
theorem upd_add0 (y : Zt) (n : Nat) : upd y n (y n + nI 0) = y := by
  funext i; simp only [upd]
  by_cases h : i = n
  · subst h; rw [if_pos rfl]; exact Int32.add_zero _
  · rw [if_neg h]
theorem upd_back (y : Zt) (n : Nat) (v : Int32) : upd (upd y n v) n (y n) = y := by
  funext i; simp only [upd]
  by_cases h : i = n
  · subst h; rw [if_pos rfl]
  · rw [if_neg h, if_neg h]
theorem clr_fin {B N k d : Nat} {z : Zt} (h : INV B N z) (hk : k < N) (hg : ¬ z (10 * k + 2) = 2) (hM : zClrF z k (401 - d) d = zClrF z k 401 0) (hd : d ≤ 401) (he : d = 401 ∨ ¬ zClrV z k d < zChg z k - z (10 * k + 8)) : zClearIn z (nI k) = if 400 < d then -1000004 else nI d := by
  rw [clr_in h hk, if_neg hg, ← hM]
  exact clrF_end he hd
set_option maxHeartbeats 4000000 in
set_option maxRecDepth 100000 in
theorem c_L_isClear (l : Launch) (K : KT) (sz : Nat) (x : Nat) (s : Ot) (y : Zt) (V : VW) (i : Nat) (B : Nat) (N : Nat) (S : Nat) (hI : INV B N y) (hi : i < N) (h16 : N ≤ 16) (hS : y 191 = nI S) (hS1 : S ≤ 1) : Ct l K yL_isClear cL_isClear 9 (some .boolean) 7 [.ref x, .int (nI i), .ref (x + 194), .ref (x + 195), .ref (x + 196), .ref (x + 197)] (xwL K x y s y V) sz (some (.int 1)) (xwL K x y s y V) sz 0 0 := by
  refine Ct.ofG (by decide) (Nat.le_of_ble_eq_true rfl) ?_
  intro p9 e9 s9 m9 a9 b9 t9 c9 cx hin9
  refine G.lv0 (lv2 := [(0, .ref x), (1, .int (nI i)), (2, .ref (x + 194)), (3, .ref (x + 195)), (4, .ref (x + 196)), (5, .ref (x + 197))]) rfl ?_
  refine G.aload_n (pc := 0) cx dL_isClear_0 rfl 3 rfl ?_
  refine G.iconst (pc := 1) cx dL_isClear_1 (v := 3) (by decide) ?_
  refine G.iload_n (pc := 2) cx dL_isClear_2 rfl 1 rfl ?_
  refine G.imulN (pc := 3) cx dL_isClear_3 3 i ?_
  refine G.iconst (pc := 4) cx dL_isClear_4 (v := 2) (by decide) ?_
  refine G.iaddN (pc := 5) cx dL_isClear_5 (3 * i) 2 ?_
  refine G.ialdV (pc := 6) cx dL_isClear_6 xl_a (j := ((3 * i) + 2)) rfl (by omega) (by decide) (xr_a (n := 10 * i + 2) (by omega) (by omega)) ?_
  refine G.iconst (pc := 7) cx dL_isClear_7 (v := 2) (by decide) ?_
  refine G.icmp_ne (pc := 8) cx dL_isClear_8 (tgt := 27) (by decide) (fun cq8 => ?_) (fun cq8 => ?_)
  · skip
    refine G.iconst (pc := 27) cx dL_isClear_27 (v := 4) (by decide) ?_
    refine G.iload_n (pc := 28) cx dL_isClear_28 rfl 1 rfl ?_
    refine G.imulN (pc := 29) cx dL_isClear_29 4 i ?_
    refine G.iconst (pc := 30) cx dL_isClear_30 (v := 1) (by decide) ?_
    refine G.iaddN (pc := 31) cx dL_isClear_31 (4 * i) 1 ?_
    refine G.aload_n (pc := 32) cx dL_isClear_32 rfl 2 rfl ?_
    refine G.iconst (pc := 33) cx dL_isClear_33 (v := 1) (by decide) ?_
    refine G.ialdV (pc := 34) cx dL_isClear_34 xl_g (j := 1) rfl (by omega) (by decide) ((xr_g (n := 191) (by omega) (by omega)).trans (hS)) ?_
    refine G.isubN (pc := 35) cx dL_isClear_35 ((4 * i) + 1) S (by omega) ?_
    refine G.istore (pc := 36) cx dL_isClear_36 (by decide) rfl ?_
    refine G.aload (pc := 38) cx dL_isClear_38 5 rfl ?_
    refine G.iload (pc := 40) cx dL_isClear_40 0 rfl ?_
    refine G.ialdV (pc := 42) cx dL_isClear_42 xl_b (j := (((4 * i) + 1) - S)) rfl (by omega) (by decide) (xr_b (n := 10 * i + (4 - S)) (by omega) (by omega)) ?_
    refine G.istore (pc := 43) cx dL_isClear_43 (by decide) rfl ?_
    refine G.iconst (pc := 45) cx dL_isClear_45 (v := 0) (by decide) ?_
    refine G.istore (pc := 46) cx dL_isClear_46 (by decide) rfl ?_
    have L48_1 : ∀ (fz k48 : Nat), 401 - k48 < fz → k48 ≤ 401 → (zClrF y i (401 - k48) k48 = zClrF y i 401 0) → G K p9 l e9 (rmL 7 0 0) s9 m9 a9 b9 t9 c9 (MQ b9 (QCt K (some (.int 1)) (xwL K x y s y V) sz) a9 s9 0 0 (kA K)) 9 (xwL K x y s (upd y (10 * i + (4 - S)) (y (10 * i + (4 - S)) + nI k48)) V) sz 0 0 48 [(7, .int (y (10 * i + (4 - S)))), (6, .int (nI (((4 * i) + 1) - S))), (0, .ref x), (1, .int (nI i)), (2, .ref (x + 194)), (3, .ref (x + 195)), (4, .ref (x + 196)), (5, .ref (x + 197)), (8, .int (nI k48))] [] := by
      intro fz
      induction fz with
      | zero => intro k48 h9; omega
      | succ fz ih48 =>
        intro k48 h948 h848 hM
        refine G.iload (pc := 48) cx dL_isClear_48 8 rfl ?_
        refine G.sipush (pc := 50) cx dL_isClear_50 (v := 401) (by decide) ?_
        refine G.icmp_geN (pc := 53) cx k48 401 (by omega) (by omega) dL_isClear_53 (tgt := 83) (by decide) (fun cq53 => ?_) (fun cq53 => ?_)
        · skip
          have nq53 := Nat.not_lt.mpr cq53
          have ex48 : k48 = 401 := by omega
          try rw [ex48]
          refine G.aload (pc := 83) cx dL_isClear_83 6 rfl ?_
          refine G.iload (pc := 85) cx dL_isClear_85 1 rfl ?_
          refine G.iload (pc := 87) cx dL_isClear_87 0 rfl ?_
          refine G.iastC (pc := 89) cx dL_isClear_89 xl_b (j := (((4 * i) + 1) - S)) rfl (by omega) (by decide) (xs_b (n := 10 * i + (4 - S)) (by omega) (by omega)) ?_
          refine G.cast (V' := (xwL K x y s y V)) (congrArg (fun q9 => xwL K x y s q9 V) (upd_back _ _ _)) ?_
          refine G.aload_n (pc := 90) cx dL_isClear_90 rfl 2 rfl ?_
          refine G.iload_n (pc := 91) cx dL_isClear_91 rfl 3 rfl ?_
          refine G.callVg (pc := 92) (rest := []) (st1 := [.int (zClearIn y (nI i))]) cx (k_clearIn (l := l) (K := K) (sz := sz) (x := x) (z := y) (y := y) (s := s) (V := V) hI (nI i)) ok_X9_clearIn dL_isClear_92 wm_ml_L_120 rfl xw_o rfl (Nat.le_of_ble_eq_true rfl) ⟨Nat.le_of_ble_eq_true rfl, Nat.le_of_ble_eq_true rfl⟩ ⟨Nat.le_of_ble_eq_true rfl, Nat.le_of_ble_eq_true rfl⟩ rfl ?_
          refine G.iload (pc := 95) cx dL_isClear_95 8 rfl ?_
          refine G.sipush (pc := 97) cx dL_isClear_97 (v := 400) (by decide) ?_
          refine G.icmp_leN (pc := 100) cx 401 400 (by omega) (by omega) dL_isClear_100 (tgt := 108) (by decide) (fun cq100 => ?_) (fun cq100 => ?_)
          · skip
            have nq100 := Nat.not_lt.mpr cq100
            refine G.iload (pc := 108) cx dL_isClear_108 8 rfl ?_
            refine G.icmp_ne (pc := 110) cx dL_isClear_110 (tgt := 117) (by decide) (fun h9 => absurd (by refine (clr_fin hI hi cq8 hM (by omega) (by first | exact Or.inl ex48 | exact Or.inr (mt (clr_at hI hi hS hS1 cq8 (by omega)).mpr (Int32.not_lt.mpr cq65)))).trans ?_; first | exact if_neg (by omega) | exact if_pos (by omega) | omega) h9) (fun _ => ?_)
            refine G.iconst (pc := 113) cx dL_isClear_113 (v := 1) (by decide) ?_
            refine G.goto (pc := 114) cx dL_isClear_114 (tgt := 118) (by decide) ?_
            refine G.zret (pc := 118) cx rfl dL_isClear_118 rfl ?_ ?_ rfl
            · rfl
            · rfl
          · skip
            have nq100 := Nat.not_le.mpr cq100
            refine G.ldc (pc := 103) cx dL_isClear_103 (v := (-1000004)) wm_ct_L_113 ?_
            refine G.goto (pc := 105) cx dL_isClear_105 (tgt := 110) (by decide) ?_
            refine G.icmp_ne (pc := 110) cx dL_isClear_110 (tgt := 117) (by decide) (fun h9 => absurd (by refine (clr_fin hI hi cq8 hM (by omega) (by first | exact Or.inl ex48 | exact Or.inr (mt (clr_at hI hi hS hS1 cq8 (by omega)).mpr (Int32.not_lt.mpr cq65)))).trans ?_; first | exact if_neg (by omega) | exact if_pos (by omega) | omega) h9) (fun _ => ?_)
            refine G.iconst (pc := 113) cx dL_isClear_113 (v := 1) (by decide) ?_
            refine G.goto (pc := 114) cx dL_isClear_114 (tgt := 118) (by decide) ?_
            refine G.zret (pc := 118) cx rfl dL_isClear_118 rfl ?_ ?_ rfl
            · rfl
            · rfl
        · skip
          have nq53 := Nat.not_le.mpr cq53
          refine G.aload_n (pc := 56) cx dL_isClear_56 rfl 5 rfl ?_
          refine G.aload (pc := 57) cx dL_isClear_57 6 rfl ?_
          refine G.aload (pc := 59) cx dL_isClear_59 7 rfl ?_
          refine G.iload_n (pc := 61) cx dL_isClear_61 rfl 3 rfl ?_
          refine G.callSg (pc := 62) (rest := []) (st1 := [.int (zBal (upd y (10 * i + (4 - S)) (y (10 * i + (4 - S)) + nI k48)) i)]) cx (c_L_balance l K sz x y s (upd y (10 * i + (4 - S)) (y (10 * i + (4 - S)) + nI k48)) V i (by omega)) ok_L_balance dL_isClear_62 wm_ml_L_23 rfl rfl (Nat.le_of_ble_eq_true rfl) ⟨Nat.le_of_ble_eq_true rfl, Nat.le_of_ble_eq_true rfl⟩ ⟨Nat.le_of_ble_eq_true rfl, Nat.le_of_ble_eq_true rfl⟩ rfl ?_
          refine G.if_ge (pc := 65) cx dL_isClear_65 (tgt := 83) (by decide) (fun cq65 => ?_) (fun cq65 => ?_)
          · skip
            have nq65 := Int32.not_lt.mpr cq65
            refine G.aload (pc := 83) cx dL_isClear_83 6 rfl ?_
            refine G.iload (pc := 85) cx dL_isClear_85 1 rfl ?_
            refine G.iload (pc := 87) cx dL_isClear_87 0 rfl ?_
            refine G.iastC (pc := 89) cx dL_isClear_89 xl_b (j := (((4 * i) + 1) - S)) rfl (by omega) (by decide) (xs_b (n := 10 * i + (4 - S)) (by omega) (by omega)) ?_
            refine G.cast (V' := (xwL K x y s y V)) (congrArg (fun q9 => xwL K x y s q9 V) (upd_back _ _ _)) ?_
            refine G.aload_n (pc := 90) cx dL_isClear_90 rfl 2 rfl ?_
            refine G.iload_n (pc := 91) cx dL_isClear_91 rfl 3 rfl ?_
            refine G.callVg (pc := 92) (rest := []) (st1 := [.int (zClearIn y (nI i))]) cx (k_clearIn (l := l) (K := K) (sz := sz) (x := x) (z := y) (y := y) (s := s) (V := V) hI (nI i)) ok_X9_clearIn dL_isClear_92 wm_ml_L_120 rfl xw_o rfl (Nat.le_of_ble_eq_true rfl) ⟨Nat.le_of_ble_eq_true rfl, Nat.le_of_ble_eq_true rfl⟩ ⟨Nat.le_of_ble_eq_true rfl, Nat.le_of_ble_eq_true rfl⟩ rfl ?_
            refine G.iload (pc := 95) cx dL_isClear_95 8 rfl ?_
            refine G.sipush (pc := 97) cx dL_isClear_97 (v := 400) (by decide) ?_
            refine G.icmp_leN (pc := 100) cx k48 400 (by omega) (by omega) dL_isClear_100 (tgt := 108) (by decide) (fun cq100 => ?_) (fun cq100 => ?_)
            · skip
              have nq100 := Nat.not_lt.mpr cq100
              refine G.iload (pc := 108) cx dL_isClear_108 8 rfl ?_
              refine G.icmp_ne (pc := 110) cx dL_isClear_110 (tgt := 117) (by decide) (fun h9 => absurd (by refine (clr_fin hI hi cq8 hM (by omega) (by first | exact Or.inl ex48 | exact Or.inr (mt (clr_at hI hi hS hS1 cq8 (by omega)).mpr (Int32.not_lt.mpr cq65)))).trans ?_; first | exact if_neg (by omega) | exact if_pos (by omega) | omega) h9) (fun _ => ?_)
              refine G.iconst (pc := 113) cx dL_isClear_113 (v := 1) (by decide) ?_
              refine G.goto (pc := 114) cx dL_isClear_114 (tgt := 118) (by decide) ?_
              refine G.zret (pc := 118) cx rfl dL_isClear_118 rfl ?_ ?_ rfl
              · rfl
              · rfl
            · skip
              have nq100 := Nat.not_le.mpr cq100
              refine G.ldc (pc := 103) cx dL_isClear_103 (v := (-1000004)) wm_ct_L_113 ?_
              refine G.goto (pc := 105) cx dL_isClear_105 (tgt := 110) (by decide) ?_
              refine G.icmp_ne (pc := 110) cx dL_isClear_110 (tgt := 117) (by decide) (fun h9 => absurd (by refine (clr_fin hI hi cq8 hM (by omega) (by first | exact Or.inl ex48 | exact Or.inr (mt (clr_at hI hi hS hS1 cq8 (by omega)).mpr (Int32.not_lt.mpr cq65)))).trans ?_; first | exact if_neg (by omega) | exact if_pos (by omega) | omega) h9) (fun _ => ?_)
              refine G.iconst (pc := 113) cx dL_isClear_113 (v := 1) (by decide) ?_
              refine G.goto (pc := 114) cx dL_isClear_114 (tgt := 118) (by decide) ?_
              refine G.zret (pc := 118) cx rfl dL_isClear_118 rfl ?_ ?_ rfl
              · rfl
              · rfl
          · skip
            have nq65 := Int32.not_le.mp cq65
            refine G.aload (pc := 68) cx dL_isClear_68 6 rfl ?_
            refine G.iload (pc := 70) cx dL_isClear_70 1 rfl ?_
            refine G.dup2 (pc := 72) cx dL_isClear_72 rfl rfl ?_
            refine G.ialdV (pc := 73) cx dL_isClear_73 xl_b (j := (((4 * i) + 1) - S)) rfl (by omega) (by decide) ((xr_b (n := 10 * i + (4 - S)) (by omega) (by omega)).trans (upd_s y (10 * i + (4 - S)) (y (10 * i + (4 - S)) + nI k48))) ?_
            refine G.iconst (pc := 74) cx dL_isClear_74 (v := 1) (by decide) ?_
            refine G.iadd (pc := 75) cx dL_isClear_75 ?_
            refine G.iastC (pc := 76) cx dL_isClear_76 xl_b (j := (((4 * i) + 1) - S)) rfl (by omega) (by decide) (xs_b (n := 10 * i + (4 - S)) (by omega) (by omega)) ?_
            refine G.iinc (pc := 77) cx dL_isClear_77 (v := nI (k48 + 1)) (k := 8) rfl (nI_add k48 1) (by decide) rfl ?_
            refine G.goto (pc := 80) cx dL_isClear_80 (tgt := 48) (by decide) ?_
            refine G.cast (V' := (xwL K x y s (upd y (10 * i + (4 - S)) (y (10 * i + (4 - S)) + nI (k48 + 1))) V)) (congrArg (fun q9 => xwL K x y s q9 V) (show (upd (upd y (10 * i + (4 - S)) (y (10 * i + (4 - S)) + nI k48)) (10 * i + (4 - S)) ((y (10 * i + (4 - S)) + nI k48) + 1)) = (upd y (10 * i + (4 - S)) (y (10 * i + (4 - S)) + nI (k48 + 1))) from by rw [upd_upd, ← nI_add k48 1, ← Int32.add_assoc]; rfl)) ?_
            refine G.castL (lv' := [(7, .int (y (10 * i + (4 - S)))), (6, .int (nI (((4 * i) + 1) - S))), (0, .ref x), (1, .int (nI i)), (2, .ref (x + 194)), (3, .ref (x + 195)), (4, .ref (x + 196)), (5, .ref (x + 197)), (8, .int (nI (k48 + 1)))]) [1, 2, 3, 4, 5, 6, 7, 8, 0] rfl ?_
            exact ih48 (k48 + 1) (by omega) (by omega) (by exact (clrF_step ((clr_at hI hi hS hS1 cq8 (by omega)).mp nq65) (by omega)).symm.trans hM)
    refine G.cast (V' := (xwL K x y s (upd y (10 * i + (4 - S)) (y (10 * i + (4 - S)) + nI 0)) V)) (congrArg (fun q9 => xwL K x y s q9 V) (show y = (upd y (10 * i + (4 - S)) (y (10 * i + (4 - S)) + nI 0)) from by first | exact (upd_add0 _ _).symm | rfl)) ?_
    refine G.castL (lv' := [(7, .int (y (10 * i + (4 - S)))), (6, .int (nI (((4 * i) + 1) - S))), (0, .ref x), (1, .int (nI i)), (2, .ref (x + 194)), (3, .ref (x + 195)), (4, .ref (x + 196)), (5, .ref (x + 197)), (8, .int 0)]) [1, 2, 3, 4, 5, 6, 7, 8, 0] rfl ?_
    refine G.lv0 (lv2 := [(7, .int (y (10 * i + (4 - S)))), (6, .int (nI (((4 * i) + 1) - S))), (0, .ref x), (1, .int (nI i)), (2, .ref (x + 194)), (3, .ref (x + 195)), (4, .ref (x + 196)), (5, .ref (x + 197)), (8, .int (nI 0))]) (congrArg (fun q9 => ([(7, .int (y (10 * i + (4 - S)))), (6, .int (nI (((4 * i) + 1) - S))), (0, .ref x), (1, .int (nI i)), (2, .ref (x + 194)), (3, .ref (x + 195)), (4, .ref (x + 196)), (5, .ref (x + 197)), (8, .int q9)] : List (Nat × Value))) (show (0 : Int32) = nI 0 from by first | exact (upd_add0 _ _).symm | rfl)) ?_
    exact L48_1 (401 + 1) 0 (by omega) (by omega) (by rfl)
  · skip
    refine G.aload_n (pc := 11) cx dL_isClear_11 rfl 0 rfl ?_
    refine G.iload_n (pc := 12) cx dL_isClear_12 rfl 1 rfl ?_
    refine G.callVg (pc := 13) (rest := []) (st1 := [.int (zClearIn y (nI i))]) cx (k_clearIn (l := l) (K := K) (sz := sz) (x := x) (z := y) (y := y) (s := s) (V := V) hI (nI i)) ok_X9_clearIn dL_isClear_13 wm_ml_L_120 rfl xw_o rfl (Nat.le_of_ble_eq_true rfl) ⟨Nat.le_of_ble_eq_true rfl, Nat.le_of_ble_eq_true rfl⟩ ⟨Nat.le_of_ble_eq_true rfl, Nat.le_of_ble_eq_true rfl⟩ rfl ?_
    refine G.ldc (pc := 16) cx dL_isClear_16 (v := (-1000002)) wm_ct_L_33 ?_
    refine G.icmp_ne (pc := 18) cx dL_isClear_18 (tgt := 25) (by decide) (fun h9 => absurd (by rw [clr_in hI hi, if_pos cq8]) h9) (fun _ => ?_)
    refine G.iconst (pc := 21) cx dL_isClear_21 (v := 1) (by decide) ?_
    refine G.goto (pc := 22) cx dL_isClear_22 (tgt := 26) (by decide) ?_
    refine G.zret (pc := 26) cx rfl dL_isClear_26 rfl ?_ ?_ rfl
    · rfl
    · rfl
