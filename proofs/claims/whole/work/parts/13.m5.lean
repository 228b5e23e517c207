def tyAns (x : Int32) (L : Nat) : Int32 := if ¬ (32 ≤ x ∧ x ≤ 126) then -1000001 else if L = 60 then -1000003 else nI (L + 1)
def tyR (r : Rt) (x : Int32) (L : Nat) : Rt := if ¬ (32 ≤ x ∧ x ≤ 126) ∨ L = 60 then r else (r.1, r.2.1, upd r.2.2.1 L x, r.2.2.2.1, upd r.2.2.2.2 1 (nI (L + 1)))
def tAt (t : Zt) (L u : Nat) : Int32 := if u < L then t u else 0
def tNum (q : Int32) : Int32 := if q = 111 ∨ q = 112 ∨ q = 101 then 0 else if q = 100 ∨ q = 108 then 1 else if q = 104 ∨ q = 97 ∨ q = 102 ∨ q = 114 then 2 else if q = 98 ∨ q = 118 then 3 else -1
set_option maxHeartbeats 4000000 in
set_option maxRecDepth 100000 in
theorem c_X10_clearIn (l : Launch) (K : KT) (sz : Nat) (o : Nat) (z : Zt) (r : Rt) (V : VW) (a : Int32) (N : Nat) (hN : z 194 = nI N) (h16 : N ≤ 16) : Ct l K yX10_clearIn cX10_clearIn 7 (some .int) 2 [.ref o, .int a] (mw K o z r V) sz (some (.int (zClearIn z a))) (mw K o z r V) sz 0 0 := by
  refine Ct.ofG (by decide) (Nat.le_of_ble_eq_true rfl) ?_
  intro p9 e9 s9 m9 a9 b9 t9 c9 cx hin9
  refine G.lv0 (lv2 := [(0, .ref o), (1, .int a)]) rfl ?_
  refine G.aload_n (pc := 0) cx dX10_clearIn_0 rfl 0 rfl ?_
  refine G.iload_n (pc := 1) cx dX10_clearIn_1 rfl 1 rfl ?_
  refine G.callV0 (pc := 2) (rest := []) (st1 := [.int (b2 (0 ≤ a ∧ a ≤ z 194 - 1))]) cx (c_X10_isSailor l K sz o z r V a) ok_X10_isSailor dX10_clearIn_2 wm_ml_X10_98 rfl mw_m rfl rfl (Nat.le_of_ble_eq_true rfl) ⟨Nat.le_of_ble_eq_true rfl, Nat.le_of_ble_eq_true rfl⟩ rfl ?_
  refine G.if_neB (pc := 5) cx dX10_clearIn_5 (tgt := 11) (by decide) (fun cq5 => ?_) (fun cq5 => ?_)
  · skip
    obtain ⟨k, hk, rfl⟩ := sail_of hN h16 cq5
    have tk : (nI k).toNatClampNeg = k := nI_clamp (by omega)
    refine G.aload_n (pc := 11) cx dX10_clearIn_11 rfl 0 rfl ?_
    refine G.iload_n (pc := 12) cx dX10_clearIn_12 rfl 1 rfl ?_
    refine G.callV0 (pc := 13) (rest := []) (st1 := [.int (b2 (z (10 * k + 2) = 2))]) cx (c_X10_isGone l K sz o z r V k (by omega)) ok_X10_isGone dX10_clearIn_13 wm_ml_X10_42 rfl mw_m rfl rfl (Nat.le_of_ble_eq_true rfl) ⟨Nat.le_of_ble_eq_true rfl, Nat.le_of_ble_eq_true rfl⟩ rfl ?_
    refine G.if_eqB (pc := 16) cx dX10_clearIn_16 (tgt := 22) (by decide) (fun cq16 => ?_) (fun cq16 => ?_)
    · skip
      refine G.aload_n (pc := 22) cx dX10_clearIn_22 rfl 0 rfl ?_
      refine G.iload_n (pc := 23) cx dX10_clearIn_23 rfl 1 rfl ?_
      refine G.callV0 (pc := 24) (rest := []) (st1 := [.int (zChg z k)]) cx (c_X10_charged l K sz o z r V k (by omega)) ok_X10_charged dX10_clearIn_24 wm_ml_X10_50 rfl mw_m rfl rfl (Nat.le_of_ble_eq_true rfl) ⟨Nat.le_of_ble_eq_true rfl, Nat.le_of_ble_eq_true rfl⟩ rfl ?_
      refine G.aload_n (pc := 27) cx dX10_clearIn_27 rfl 0 rfl ?_
      refine G.iload_n (pc := 28) cx dX10_clearIn_28 rfl 1 rfl ?_
      refine G.bipush (pc := 29) cx dX10_clearIn_29 (v := 8) (by decide) ?_
      refine G.callV0 (pc := 31) (rest := [.int (zChg z k)]) (st1 := [.int (z (10 * k + 8)), .int (zChg z k)]) cx (c_X10_of l K sz o z r V k 8 (by omega)) ok_X10_of dX10_clearIn_31 wm_ml_X10_29 rfl mw_m rfl rfl (Nat.le_of_ble_eq_true rfl) ⟨Nat.le_of_ble_eq_true rfl, Nat.le_of_ble_eq_true rfl⟩ rfl ?_
      refine G.isub (pc := 34) cx dX10_clearIn_34 ?_
      refine G.istore_n (pc := 35) cx dX10_clearIn_35 rfl (by decide) rfl ?_
      refine G.iconst (pc := 36) cx dX10_clearIn_36 (v := 0) (by decide) ?_
      refine G.istore_n (pc := 37) cx dX10_clearIn_37 rfl (by decide) rfl ?_
      refine G.iconst (pc := 38) cx dX10_clearIn_38 (v := 0) (by decide) ?_
      refine G.istore (pc := 39) cx dX10_clearIn_39 (by decide) rfl ?_
      have L41_1 : ∀ (f k41 : Nat), 401 - k41 < f → k41 ≤ 401 → (zClrF z k (401 - k41) k41 = zClrF z k 401 0) → G K p9 l e9 (rmL 2 0 0) s9 m9 a9 b9 t9 c9 (MQ b9 (QCt K (some (.int (zClearIn z (nI k)))) (mw K o z r V) sz) a9 s9 0 0 (kA K)) 7 (mw K o z r V) sz 0 0 41 [(2, .int ((zChg z k) - (z (10 * k + 8)))), (0, .ref o), (1, .int (nI k)), (3, .int (nI k41)), (4, .int 0)] [] := by
        intro f
        induction f with
        | zero => intro k41 h9; omega
        | succ f ih41 =>
          intro k41 h941 h841 hM
          refine G.iload (pc := 41) cx dX10_clearIn_41 4 rfl ?_
          refine G.if_neN (pc := 43) cx 0 (by omega) dX10_clearIn_43 (tgt := 135) (by decide) (fun cq43 => ?_) (fun cq43 => ?_)
          · skip
            exact absurd cq43 (by decide)
          · skip
            refine G.iload_n (pc := 46) cx dX10_clearIn_46 rfl 3 rfl ?_
            refine G.sipush (pc := 47) cx dX10_clearIn_47 (v := 400) (by decide) ?_
            refine G.icmp_gtN (pc := 50) cx k41 400 (by omega) (by omega) dX10_clearIn_50 (tgt := 135) (by decide) (fun cq50 => ?_) (fun cq50 => ?_)
            · skip
              have ex41 : k41 = 401 := by omega
              try rw [ex41]
              refine G.iload (pc := 135) cx dX10_clearIn_135 4 rfl ?_
              refine G.if_eqN (pc := 137) cx 0 (by omega) dX10_clearIn_137 (tgt := 144) (by decide) (fun cq137 => ?_) (fun cq137 => ?_)
              · skip
                refine G.ldc (pc := 144) cx dX10_clearIn_144 (v := (-1000004)) wm_ct_X10_182 ?_
                refine G.iret (pc := 146) cx rfl dX10_clearIn_146 ?_ ?_ rfl
                · refine congrArg (fun x => some (Value.int x)) ?_
                  (try clear L41_1); (try clear ih41); (try clear hin9); (try clear cx); refine (if_neg (fun h => h cq5)).trans ?_; rw [tk]; refine (if_neg cq16).trans ?_; rw [← hM]; first | (subst ex41; rfl) | (rw [show 401 - k41 = 401 - (k41 + 1) + 1 by omega]; simp only [zClrF]; rw [if_neg (show ¬ zClrV z k k41 < _ from cq109)]; rfl)
                · rfl
              · skip
                exact absurd cq137 (by decide)
            · skip
              refine G.aload_n (pc := 53) cx dX10_clearIn_53 rfl 1 rfl ?_
              refine G.iload_n (pc := 54) cx dX10_clearIn_54 rfl 2 rfl ?_
              refine G.iconst (pc := 55) cx dX10_clearIn_55 (v := 3) (by decide) ?_
              refine G.callV0 (pc := 56) (rest := []) (st1 := [.int (z (10 * k + 3))]) cx (c_X10_of l K sz o z r V k 3 (by omega)) ok_X10_of dX10_clearIn_56 wm_ml_X10_29 rfl mw_m rfl rfl (Nat.le_of_ble_eq_true rfl) ⟨Nat.le_of_ble_eq_true rfl, Nat.le_of_ble_eq_true rfl⟩ rfl ?_
              refine G.aload_n (pc := 59) cx dX10_clearIn_59 rfl 1 rfl ?_
              refine G.callV0 (pc := 60) (rest := [.int (z (10 * k + 3))]) (st1 := [.int (b2 (z 191 = 1)), .int (z (10 * k + 3))]) cx (c_X10_isAtSea l K sz o z r V) ok_X10_isAtSea dX10_clearIn_60 wm_ml_X10_65 rfl mw_m rfl rfl (Nat.le_of_ble_eq_true rfl) ⟨Nat.le_of_ble_eq_true rfl, Nat.le_of_ble_eq_true rfl⟩ rfl ?_
              have J71_2 : G K p9 l e9 (rmL 2 0 0) s9 m9 a9 b9 t9 c9 (MQ b9 (QCt K (some (.int (zClearIn z (nI k)))) (mw K o z r V) sz) a9 s9 0 0 (kA K)) 7 (mw K o z r V) sz 0 0 71 [(0, .ref o), (1, .int (nI k)), (2, .int ((zChg z k) - (z (10 * k + 8)))), (3, .int (nI k41)), (4, .int 0)] [.int (if z 191 = 1 then nI k41 else 0), .int (z (10 * k + 3))] := by
                refine G.iadd (pc := 71) cx dX10_clearIn_71 ?_
                refine G.istore (pc := 72) cx dX10_clearIn_72 (by decide) rfl ?_
                refine G.aload_n (pc := 74) cx dX10_clearIn_74 rfl 1 rfl ?_
                refine G.iload_n (pc := 75) cx dX10_clearIn_75 rfl 2 rfl ?_
                refine G.iconst (pc := 76) cx dX10_clearIn_76 (v := 4) (by decide) ?_
                refine G.callV0 (pc := 77) (rest := []) (st1 := [.int (z (10 * k + 4))]) cx (c_X10_of l K sz o z r V k 4 (by omega)) ok_X10_of dX10_clearIn_77 wm_ml_X10_29 rfl mw_m rfl rfl (Nat.le_of_ble_eq_true rfl) ⟨Nat.le_of_ble_eq_true rfl, Nat.le_of_ble_eq_true rfl⟩ rfl ?_
                refine G.aload_n (pc := 80) cx dX10_clearIn_80 rfl 1 rfl ?_
                refine G.callV0 (pc := 81) (rest := [.int (z (10 * k + 4))]) (st1 := [.int (b2 (z 191 = 1)), .int (z (10 * k + 4))]) cx (c_X10_isAtSea l K sz o z r V) ok_X10_isAtSea dX10_clearIn_81 wm_ml_X10_65 rfl mw_m rfl rfl (Nat.le_of_ble_eq_true rfl) ⟨Nat.le_of_ble_eq_true rfl, Nat.le_of_ble_eq_true rfl⟩ rfl ?_
                have J92_3 : G K p9 l e9 (rmL 2 0 0) s9 m9 a9 b9 t9 c9 (MQ b9 (QCt K (some (.int (zClearIn z (nI k)))) (mw K o z r V) sz) a9 s9 0 0 (kA K)) 7 (mw K o z r V) sz 0 0 92 [(0, .ref o), (1, .int (nI k)), (2, .int ((zChg z k) - (z (10 * k + 8)))), (3, .int (nI k41)), (4, .int 0), (5, .int ((z (10 * k + 3)) + (if z 191 = 1 then nI k41 else 0)))] [.int (if z 191 = 1 then 0 else nI k41), .int (z (10 * k + 4))] := by
                  refine G.iadd (pc := 92) cx dX10_clearIn_92 ?_
                  refine G.istore (pc := 93) cx dX10_clearIn_93 (by decide) rfl ?_
                  refine G.aload_n (pc := 95) cx dX10_clearIn_95 rfl 1 rfl ?_
                  refine G.iload_n (pc := 96) cx dX10_clearIn_96 rfl 2 rfl ?_
                  refine G.iconst (pc := 97) cx dX10_clearIn_97 (v := 0) (by decide) ?_
                  refine G.callV0 (pc := 98) (rest := []) (st1 := [.int (z (10 * k + 0))]) cx (c_X10_of l K sz o z r V k 0 (by omega)) ok_X10_of dX10_clearIn_98 wm_ml_X10_29 rfl mw_m rfl rfl (Nat.le_of_ble_eq_true rfl) ⟨Nat.le_of_ble_eq_true rfl, Nat.le_of_ble_eq_true rfl⟩ rfl ?_
                  refine G.iload (pc := 101) cx dX10_clearIn_101 6 rfl ?_
                  refine G.iload (pc := 103) cx dX10_clearIn_103 0 rfl ?_
                  refine G.callS0 (pc := 105) (rest := []) (st1 := [.int (zWages (z (10 * k + 0)) ((z (10 * k + 3)) + (if z 191 = 1 then nI k41 else 0)) ((z (10 * k + 4)) + (if z 191 = 1 then 0 else nI k41)))]) cx (c_X10_wages l K sz (z (10 * k + 0)) ((z (10 * k + 3)) + (if z 191 = 1 then nI k41 else 0)) ((z (10 * k + 4)) + (if z 191 = 1 then 0 else nI k41)) (mw K o z r V)) ok_X10_wages dX10_clearIn_105 wm_ml_X10_38 rfl rfl (Nat.le_of_ble_eq_true rfl) ⟨Nat.le_of_ble_eq_true rfl, Nat.le_of_ble_eq_true rfl⟩ rfl ?_
                  refine G.iload_n (pc := 108) cx dX10_clearIn_108 rfl 3 rfl ?_
                  refine G.icmp_lt (pc := 109) cx dX10_clearIn_109 (tgt := 116) (by decide) (fun cq109 => ?_) (fun cq109 => ?_)
                  · skip
                    refine G.iconst (pc := 116) cx dX10_clearIn_116 (v := 0) (by decide) ?_
                    refine G.istore (pc := 117) cx dX10_clearIn_117 (by decide) rfl ?_
                    refine G.iload_n (pc := 119) cx dX10_clearIn_119 rfl 5 rfl ?_
                    refine G.iload (pc := 120) cx dX10_clearIn_120 0 rfl ?_
                    refine G.if_eqN (pc := 122) cx 0 (by omega) dX10_clearIn_122 (tgt := 129) (by decide) (fun cq122 => ?_) (fun cq122 => ?_)
                    · skip
                      refine G.iconst (pc := 129) cx dX10_clearIn_129 (v := 1) (by decide) ?_
                      refine G.iaddN (pc := 130) cx dX10_clearIn_130 k41 1 ?_
                      refine G.istore_n (pc := 131) cx dX10_clearIn_131 rfl (by decide) rfl ?_
                      refine G.goto (pc := 132) cx dX10_clearIn_132 (tgt := 41) (by decide) ?_
                      refine G.castL (lv' := [(2, .int ((zChg z k) - (z (10 * k + 8)))), (0, .ref o), (1, .int (nI k)), (3, .int (nI (k41 + 1))), (4, .int 0)]) [5, 3, 4, 0, 1] rfl ?_
                      exact ih41 (k41 + 1) (by omega) (by omega) (by rw [← hM]; conv => rhs; rw [show 401 - k41 = 401 - (k41 + 1) + 1 by omega]; simp only [zClrF]; rw [if_pos (show zClrV z k k41 < _ from cq109)])
                    · skip
                      exact absurd cq122 (by decide)
                  · skip
                    refine G.iconst (pc := 112) cx dX10_clearIn_112 (v := 1) (by decide) ?_
                    refine G.goto (pc := 113) cx dX10_clearIn_113 (tgt := 117) (by decide) ?_
                    refine G.istore (pc := 117) cx dX10_clearIn_117 (by decide) rfl ?_
                    refine G.iload_n (pc := 119) cx dX10_clearIn_119 rfl 5 rfl ?_
                    refine G.iload (pc := 120) cx dX10_clearIn_120 0 rfl ?_
                    refine G.if_eqN (pc := 122) cx 1 (by omega) dX10_clearIn_122 (tgt := 129) (by decide) (fun cq122 => ?_) (fun cq122 => ?_)
                    · skip
                      exact absurd cq122 (by decide)
                    · skip
                      refine G.iconst (pc := 125) cx dX10_clearIn_125 (v := 0) (by decide) ?_
                      refine G.goto (pc := 126) cx dX10_clearIn_126 (tgt := 130) (by decide) ?_
                      refine G.iaddN (pc := 130) cx dX10_clearIn_130 k41 0 ?_
                      refine G.istore_n (pc := 131) cx dX10_clearIn_131 rfl (by decide) rfl ?_
                      refine G.goto (pc := 132) cx dX10_clearIn_132 (tgt := 41) (by decide) ?_
                      refine G.iload (pc := 41) cx dX10_clearIn_41 1 rfl ?_
                      refine G.if_neN (pc := 43) cx 1 (by omega) dX10_clearIn_43 (tgt := 135) (by decide) (fun cq43 => ?_) (fun cq43 => ?_)
                      · skip
                        refine G.iload (pc := 135) cx dX10_clearIn_135 1 rfl ?_
                        refine G.if_eqN (pc := 137) cx 1 (by omega) dX10_clearIn_137 (tgt := 144) (by decide) (fun cq137 => ?_) (fun cq137 => ?_)
                        · skip
                          exact absurd cq137 (by decide)
                        · skip
                          refine G.iload_n (pc := 140) cx dX10_clearIn_140 rfl 0 rfl ?_
                          refine G.goto (pc := 141) cx dX10_clearIn_141 (tgt := 146) (by decide) ?_
                          refine G.iret (pc := 146) cx rfl dX10_clearIn_146 ?_ ?_ rfl
                          · refine congrArg (fun x => some (Value.int x)) ?_
                            (try clear J92_3); (try clear J71_2); (try clear L41_1); (try clear ih41); (try clear hin9); (try clear cx); refine (if_neg (fun h => h cq5)).trans ?_; rw [tk]; refine (if_neg cq16).trans ?_; rw [← hM]; first | (subst ex41; rfl) | (rw [show 401 - k41 = 401 - (k41 + 1) + 1 by omega]; simp only [zClrF]; rw [if_neg (show ¬ zClrV z k k41 < _ from cq109)]; rfl)
                          · rfl
                      · skip
                        exact absurd cq43 (by decide)
                refine G.if_eqB (pc := 84) cx dX10_clearIn_84 (tgt := 91) (by decide) (fun cq84 => ?_) (fun cq84 => ?_)
                · skip
                  refine G.iload_n (pc := 91) cx dX10_clearIn_91 rfl 4 rfl ?_
                  refine G.castS (st' := [.int (if z 191 = 1 then 0 else nI k41), .int (z (10 * k + 4))]) (congrArg (fun q9 => ([.int q9, .int (z (10 * k + 4))] : List Value)) (show (nI k41 : Int32) = if z 191 = 1 then 0 else nI k41 from by (try clear J92_3); (try clear J71_2); (try clear L41_1); (try clear ih41); (try clear hin9); (try clear cx); first | rfl | (refine b2_t ?_; grind) | (refine b2_f ?_; grind) | (refine (b2_t ?_).symm; grind) | (refine (b2_f ?_).symm; grind) | (simp [*]; done) | (simp_all; done) | grind)) ?_
                  refine G.castL (lv' := [(0, .ref o), (1, .int (nI k)), (2, .int ((zChg z k) - (z (10 * k + 8)))), (3, .int (nI k41)), (4, .int 0), (5, .int ((z (10 * k + 3)) + (if z 191 = 1 then nI k41 else 0)))]) [1, 2, 3, 4, 5, 0] rfl ?_
                  exact J92_3
                · skip
                  refine G.iconst (pc := 87) cx dX10_clearIn_87 (v := 0) (by decide) ?_
                  refine G.goto (pc := 88) cx dX10_clearIn_88 (tgt := 92) (by decide) ?_
                  refine G.castS (st' := [.int (if z 191 = 1 then 0 else nI k41), .int (z (10 * k + 4))]) (congrArg (fun q9 => ([.int q9, .int (z (10 * k + 4))] : List Value)) (show (0 : Int32) = if z 191 = 1 then 0 else nI k41 from by (try clear J92_3); (try clear J71_2); (try clear L41_1); (try clear ih41); (try clear hin9); (try clear cx); first | rfl | (refine b2_t ?_; grind) | (refine b2_f ?_; grind) | (refine (b2_t ?_).symm; grind) | (refine (b2_f ?_).symm; grind) | (simp [*]; done) | (simp_all; done) | grind)) ?_
                  refine G.castL (lv' := [(0, .ref o), (1, .int (nI k)), (2, .int ((zChg z k) - (z (10 * k + 8)))), (3, .int (nI k41)), (4, .int 0), (5, .int ((z (10 * k + 3)) + (if z 191 = 1 then nI k41 else 0)))]) [1, 2, 3, 4, 5, 0] rfl ?_
                  exact J92_3
              refine G.if_eqB (pc := 63) cx dX10_clearIn_63 (tgt := 70) (by decide) (fun cq63 => ?_) (fun cq63 => ?_)
              · skip
                refine G.iconst (pc := 70) cx dX10_clearIn_70 (v := 0) (by decide) ?_
                refine G.castS (st' := [.int (if z 191 = 1 then nI k41 else 0), .int (z (10 * k + 3))]) (congrArg (fun q9 => ([.int q9, .int (z (10 * k + 3))] : List Value)) (show (0 : Int32) = if z 191 = 1 then nI k41 else 0 from by (try clear J92_3); (try clear J71_2); (try clear L41_1); (try clear ih41); (try clear hin9); (try clear cx); first | rfl | (refine b2_t ?_; grind) | (refine b2_f ?_; grind) | (refine (b2_t ?_).symm; grind) | (refine (b2_f ?_).symm; grind) | (simp [*]; done) | (simp_all; done) | grind)) ?_
                refine G.castL (lv' := [(0, .ref o), (1, .int (nI k)), (2, .int ((zChg z k) - (z (10 * k + 8)))), (3, .int (nI k41)), (4, .int 0)]) [1, 2, 0, 3, 4] rfl ?_
                exact J71_2
              · skip
                refine G.iload_n (pc := 66) cx dX10_clearIn_66 rfl 3 rfl ?_
                refine G.goto (pc := 67) cx dX10_clearIn_67 (tgt := 71) (by decide) ?_
                refine G.castS (st' := [.int (if z 191 = 1 then nI k41 else 0), .int (z (10 * k + 3))]) (congrArg (fun q9 => ([.int q9, .int (z (10 * k + 3))] : List Value)) (show (nI k41 : Int32) = if z 191 = 1 then nI k41 else 0 from by (try clear J92_3); (try clear J71_2); (try clear L41_1); (try clear ih41); (try clear hin9); (try clear cx); first | rfl | (refine b2_t ?_; grind) | (refine b2_f ?_; grind) | (refine (b2_t ?_).symm; grind) | (refine (b2_f ?_).symm; grind) | (simp [*]; done) | (simp_all; done) | grind)) ?_
                refine G.castL (lv' := [(0, .ref o), (1, .int (nI k)), (2, .int ((zChg z k) - (z (10 * k + 8)))), (3, .int (nI k41)), (4, .int 0)]) [1, 2, 0, 3, 4] rfl ?_
                exact J71_2
      refine G.castL (lv' := [(2, .int ((zChg z k) - (z (10 * k + 8)))), (0, .ref o), (1, .int (nI k)), (3, .int 0), (4, .int 0)]) [2, 3, 4, 1, 0] rfl ?_
      refine G.lv0 (lv2 := [(2, .int ((zChg z k) - (z (10 * k + 8)))), (0, .ref o), (1, .int (nI k)), (3, .int (nI 0)), (4, .int 0)]) (congrArg (fun q9 => ([(2, .int ((zChg z k) - (z (10 * k + 8)))), (0, .ref o), (1, .int (nI k)), (3, .int q9), (4, .int 0)] : List (Nat × Value))) (show (0 : Int32) = nI 0 from by (try clear J92_3); (try clear J71_2); (try clear L41_1); (try clear ih41); (try clear hin9); (try clear cx); first | rfl | (refine b2_t ?_; grind) | (refine b2_f ?_; grind) | (refine (b2_t ?_).symm; grind) | (refine (b2_f ?_).symm; grind) | (simp [*]; done) | (simp_all; done) | grind)) ?_
      exact L41_1 (401 + 1) 0 (by omega) (by omega) (by rfl)
    · skip
      refine G.ldc (pc := 19) cx dX10_clearIn_19 (v := (-1000002)) wm_ct_X10_37 ?_
      refine G.iret (pc := 21) cx rfl dX10_clearIn_21 ?_ ?_ rfl
      · refine congrArg (fun x => some (Value.int x)) ?_
        (try clear J92_3); (try clear J71_2); (try clear L41_1); (try clear ih41); (try clear hin9); (try clear cx); refine (if_neg (fun h => h cq5)).trans ?_; rw [tk]; exact if_pos cq16
      · rfl
  · skip
    refine G.ldc (pc := 8) cx dX10_clearIn_8 (v := (-1000001)) wm_ct_X10_64 ?_
    refine G.iret (pc := 10) cx rfl dX10_clearIn_10 ?_ ?_ rfl
    · refine congrArg (fun x => some (Value.int x)) ?_
      (try clear J92_3); (try clear J71_2); (try clear L41_1); (try clear ih41); (try clear hin9); (try clear cx); exact if_pos cq5
    · rfl
set_option maxHeartbeats 4000000 in
set_option maxRecDepth 100000 in
theorem c_X10_ifPaidOff (l : Launch) (K : KT) (sz : Nat) (o : Nat) (z : Zt) (r : Rt) (V : VW) (q : Int32) (N : Nat) (hN : z 194 = nI N) (h16 : N ≤ 16) : Ct l K yX10_ifPaidOff cX10_ifPaidOff 7 (some .int) 3 [.ref o, .int q] (mw K o z r V) sz (some (.int (zIfPO z N q))) (mw K o z r V) sz 0 0 := by
  refine Ct.ofG (by decide) (Nat.le_of_ble_eq_true rfl) ?_
  intro p9 e9 s9 m9 a9 b9 t9 c9 cx hin9
  refine G.lv0 (lv2 := [(0, .ref o), (1, .int q)]) rfl ?_
  refine G.iconst (pc := 0) cx dX10_ifPaidOff_0 (v := 0) (by decide) ?_
  refine G.istore_n (pc := 1) cx dX10_ifPaidOff_1 rfl (by decide) rfl ?_
  refine G.iconst (pc := 2) cx dX10_ifPaidOff_2 (v := 0) (by decide) ?_
  refine G.istore_n (pc := 3) cx dX10_ifPaidOff_3 rfl (by decide) rfl ?_
  refine G.iconst (pc := 4) cx dX10_ifPaidOff_4 (v := 0) (by decide) ?_
  refine G.istore (pc := 5) cx dX10_ifPaidOff_5 (by decide) rfl ?_
  refine G.iconst (pc := 7) cx dX10_ifPaidOff_7 (v := 0) (by decide) ?_
  refine G.istore (pc := 8) cx dX10_ifPaidOff_8 (by decide) rfl ?_
  have L10_1 : ∀ (f k10 : Nat), N - k10 < f → k10 ≤ N → G K p9 l e9 (rmL 3 0 0) s9 m9 a9 b9 t9 c9 (MQ b9 (QCt K (some (.int (zIfPO z N q))) (mw K o z r V) sz) a9 s9 0 0 (kA K)) 7 (mw K o z r V) sz 0 0 10 [(0, .ref o), (1, .int q), (2, .int (zPaid z k10)), (3, .int (zDebt z k10)), (4, .int (zDSet z k10)), (5, .int (nI k10))] [] := by
    intro f
    induction f with
    | zero => intro k10 h9; omega
    | succ f ih10 =>
      intro k10 h910 h810
      refine G.iload (pc := 10) cx dX10_ifPaidOff_10 5 rfl ?_
      refine G.aload_n (pc := 12) cx dX10_ifPaidOff_12 rfl 0 rfl ?_
      refine G.getM (pc := 13) cx dX10_ifPaidOff_13 0 wm_fl_X10_7 (by decide) rfl ?_
      refine G.sipush (pc := 16) cx dX10_ifPaidOff_16 (v := 194) (by decide) ?_
      refine G.ialdV (pc := 19) cx dX10_ifPaidOff_19 mw_z (j := 194) rfl (by omega) (by decide) ((cut_at (by omega)).trans (hN)) ?_
      refine G.icmp_geN (pc := 20) cx k10 N (by omega) (by omega) dX10_ifPaidOff_20 (tgt := 83) (by decide) (fun cq20 => ?_) (fun cq20 => ?_)
      · skip
        have ex10 : k10 = N := by omega
        try rw [ex10]
        refine G.iload_n (pc := 83) cx dX10_ifPaidOff_83 rfl 1 rfl ?_
        by_cases sw84_0 : q = 0
        · subst sw84_0
          refine G.tableIn (pc := 84) cx dX10_ifPaidOff_84 (off := 32) (tgt := 116) (by decide) (by decide) (by decide) (by decide) ?_
          refine G.iload_n (pc := 116) cx dX10_ifPaidOff_116 rfl 2 rfl ?_
          refine G.iret (pc := 117) cx rfl dX10_ifPaidOff_117 ?_ ?_ rfl
          · refine congrArg (fun x => some (Value.int x)) ?_
            (try clear L10_1); (try clear ih10); (try clear hin9); (try clear cx); simp [zIfPO, *]
          · rfl
        by_cases sw84_1 : q = 1
        · subst sw84_1
          refine G.tableIn (pc := 84) cx dX10_ifPaidOff_84 (off := 34) (tgt := 118) (by decide) (by decide) (by decide) (by decide) ?_
          refine G.iload_n (pc := 118) cx dX10_ifPaidOff_118 rfl 2 rfl ?_
          refine G.aload_n (pc := 119) cx dX10_ifPaidOff_119 rfl 0 rfl ?_
          refine G.getM (pc := 120) cx dX10_ifPaidOff_120 0 wm_fl_X10_7 (by decide) rfl ?_
          refine G.sipush (pc := 123) cx dX10_ifPaidOff_123 (v := 195) (by decide) ?_
          refine G.ialdV (pc := 126) cx dX10_ifPaidOff_126 mw_z (j := 195) rfl (by omega) (by decide) (cut_at (by omega)) ?_
          have J144_2 : G K p9 l e9 (rmL 3 0 0) s9 m9 a9 b9 t9 c9 (MQ b9 (QCt K (some (.int (zIfPO z N (1)))) (mw K o z r V) sz) a9 s9 0 0 (kA K)) 7 (mw K o z r V) sz 0 0 144 [(0, .ref o), (1, .int 1), (2, .int (zPaid z N)), (3, .int (zDebt z N)), (4, .int (zDSet z N)), (5, .int (nI N))] [.int (if z 195 < zPaid z N then zPaid z N - z 195 else 0)] := by
            refine G.iret (pc := 144) cx rfl dX10_ifPaidOff_144 ?_ ?_ rfl
            · refine congrArg (fun x => some (Value.int x)) ?_
              (try clear J144_2); (try clear L10_1); (try clear ih10); (try clear hin9); (try clear cx); simp [zIfPO, *]
            · rfl
          refine G.icmp_le (pc := 127) cx dX10_ifPaidOff_127 (tgt := 143) (by decide) (fun cq127 => ?_) (fun cq127 => ?_)
          · skip
            refine G.iconst (pc := 143) cx dX10_ifPaidOff_143 (v := 0) (by decide) ?_
            refine G.castS (st' := [.int (if z 195 < zPaid z N then zPaid z N - z 195 else 0)]) (congrArg (fun q9 => ([.int q9] : List Value)) (show (0 : Int32) = if z 195 < zPaid z N then zPaid z N - z 195 else 0 from by (try clear J144_2); (try clear L10_1); (try clear ih10); (try clear hin9); (try clear cx); first | rfl | (refine b2_t ?_; grind) | (refine b2_f ?_; grind) | (refine (b2_t ?_).symm; grind) | (refine (b2_f ?_).symm; grind) | (simp [*]; done) | (simp_all; done) | grind)) ?_
            exact J144_2
          · skip
            refine G.iload_n (pc := 130) cx dX10_ifPaidOff_130 rfl 2 rfl ?_
            refine G.aload_n (pc := 131) cx dX10_ifPaidOff_131 rfl 0 rfl ?_
            refine G.getM (pc := 132) cx dX10_ifPaidOff_132 0 wm_fl_X10_7 (by decide) rfl ?_
            refine G.sipush (pc := 135) cx dX10_ifPaidOff_135 (v := 195) (by decide) ?_
            refine G.ialdV (pc := 138) cx dX10_ifPaidOff_138 mw_z (j := 195) rfl (by omega) (by decide) (cut_at (by omega)) ?_
            refine G.isub (pc := 139) cx dX10_ifPaidOff_139 ?_
            refine G.goto (pc := 140) cx dX10_ifPaidOff_140 (tgt := 144) (by decide) ?_
            refine G.castS (st' := [.int (if z 195 < zPaid z N then zPaid z N - z 195 else 0)]) (congrArg (fun q9 => ([.int q9] : List Value)) (show ((zPaid z N) - (z 195) : Int32) = if z 195 < zPaid z N then zPaid z N - z 195 else 0 from by (try clear J144_2); (try clear L10_1); (try clear ih10); (try clear hin9); (try clear cx); first | rfl | (refine b2_t ?_; grind) | (refine b2_f ?_; grind) | (refine (b2_t ?_).symm; grind) | (refine (b2_f ?_).symm; grind) | (simp [*]; done) | (simp_all; done) | grind)) ?_
            exact J144_2
        by_cases sw84_2 : q = 2
        · subst sw84_2
          refine G.tableIn (pc := 84) cx dX10_ifPaidOff_84 (off := 61) (tgt := 145) (by decide) (by decide) (by decide) (by decide) ?_
          refine G.iload_n (pc := 145) cx dX10_ifPaidOff_145 rfl 3 rfl ?_
          refine G.iret (pc := 146) cx rfl dX10_ifPaidOff_146 ?_ ?_ rfl
          · refine congrArg (fun x => some (Value.int x)) ?_
            (try clear J144_2); (try clear L10_1); (try clear ih10); (try clear hin9); (try clear cx); simp [zIfPO, *]
          · rfl
        by_cases sw84_3 : q = 3
        · subst sw84_3
          refine G.tableIn (pc := 84) cx dX10_ifPaidOff_84 (off := 63) (tgt := 147) (by decide) (by decide) (by decide) (by decide) ?_
          refine G.iload (pc := 147) cx dX10_ifPaidOff_147 4 rfl ?_
          refine G.iret (pc := 149) cx rfl dX10_ifPaidOff_149 ?_ ?_ rfl
          · refine congrArg (fun x => some (Value.int x)) ?_
            (try clear J144_2); (try clear L10_1); (try clear ih10); (try clear hin9); (try clear cx); simp [zIfPO, *]
          · rfl
        refine G.tableDef (pc := 84) cx dX10_ifPaidOff_84 (tgt := 150) ?_ (by decide) ?_
        · have g0 := sw_ne sw84_0 (by decide : (0 : Int) = (0 : Int32).toInt); have g1 := sw_ne sw84_1 (by decide : (1 : Int) = (1 : Int32).toInt); have g2 := sw_ne sw84_2 (by decide : (2 : Int) = (2 : Int32).toInt); have g3 := sw_ne sw84_3 (by decide : (3 : Int) = (3 : Int32).toInt)
          rcases (show q.toInt < 0 ∨ 3 < q.toInt by omega) with h | h
          · exact Or.inl h
          · exact Or.inr (Or.inl h)
        refine G.ldc (pc := 150) cx dX10_ifPaidOff_150 (v := (-1000001)) wm_ct_X10_64 ?_
        refine G.iret (pc := 152) cx rfl dX10_ifPaidOff_152 ?_ ?_ rfl
        · refine congrArg (fun x => some (Value.int x)) ?_
          (try clear J144_2); (try clear L10_1); (try clear ih10); (try clear hin9); (try clear cx); simp [zIfPO, *]
        · rfl
      · skip
        refine G.aload_n (pc := 23) cx dX10_ifPaidOff_23 rfl 0 rfl ?_
        refine G.iload (pc := 24) cx dX10_ifPaidOff_24 5 rfl ?_
        refine G.callV0 (pc := 26) (rest := []) (st1 := [.int (zBal z k10)]) cx (c_X10_balance l K sz o z r V k10 (by omega)) ok_X10_balance dX10_ifPaidOff_26 wm_ml_X10_95 rfl mw_m rfl rfl (Nat.le_of_ble_eq_true rfl) ⟨Nat.le_of_ble_eq_true rfl, Nat.le_of_ble_eq_true rfl⟩ rfl ?_
        refine G.istore (pc := 29) cx dX10_ifPaidOff_29 (by decide) rfl ?_
        refine G.iload_n (pc := 31) cx dX10_ifPaidOff_31 rfl 3 rfl ?_
        refine G.iload (pc := 32) cx dX10_ifPaidOff_32 0 rfl ?_
        have J43_3 : G K p9 l e9 (rmL 3 0 0) s9 m9 a9 b9 t9 c9 (MQ b9 (QCt K (some (.int (zIfPO z N q))) (mw K o z r V) sz) a9 s9 0 0 (kA K)) 7 (mw K o z r V) sz 0 0 43 [(0, .ref o), (1, .int q), (2, .int (zPaid z k10)), (3, .int (zDebt z k10)), (4, .int (zDSet z k10)), (5, .int (nI k10)), (6, .int (zBal z k10))] [.int (if 0 < zBal z k10 then zBal z k10 else 0), .int (zPaid z k10)] := by
          refine G.iadd (pc := 43) cx dX10_ifPaidOff_43 ?_
          refine G.istore_n (pc := 44) cx dX10_ifPaidOff_44 rfl (by decide) rfl ?_
          refine G.iload_n (pc := 45) cx dX10_ifPaidOff_45 rfl 3 rfl ?_
          refine G.iload (pc := 46) cx dX10_ifPaidOff_46 6 rfl ?_
          have J57_4 : G K p9 l e9 (rmL 3 0 0) s9 m9 a9 b9 t9 c9 (MQ b9 (QCt K (some (.int (zIfPO z N q))) (mw K o z r V) sz) a9 s9 0 0 (kA K)) 7 (mw K o z r V) sz 0 0 57 [(0, .ref o), (1, .int q), (2, .int ((zPaid z k10) + (if 0 < zBal z k10 then zBal z k10 else 0))), (3, .int (zDebt z k10)), (4, .int (zDSet z k10)), (5, .int (nI k10)), (6, .int (zBal z k10))] [.int (if zBal z k10 < 0 then zBal z k10 else 0), .int (zDebt z k10)] := by
            refine G.isub (pc := 57) cx dX10_ifPaidOff_57 ?_
            refine G.istore_n (pc := 58) cx dX10_ifPaidOff_58 rfl (by decide) rfl ?_
            refine G.iload (pc := 59) cx dX10_ifPaidOff_59 4 rfl ?_
            refine G.iload (pc := 61) cx dX10_ifPaidOff_61 6 rfl ?_
            have J74_5 : G K p9 l e9 (rmL 3 0 0) s9 m9 a9 b9 t9 c9 (MQ b9 (QCt K (some (.int (zIfPO z N q))) (mw K o z r V) sz) a9 s9 0 0 (kA K)) 7 (mw K o z r V) sz 0 0 74 [(0, .ref o), (1, .int q), (2, .int ((zPaid z k10) + (if 0 < zBal z k10 then zBal z k10 else 0))), (3, .int ((zDebt z k10) - (if zBal z k10 < 0 then zBal z k10 else 0))), (4, .int (zDSet z k10)), (5, .int (nI k10)), (6, .int (zBal z k10))] [.int (if zBal z k10 < 0 then 1 <<< (nI k10 &&& 31) else 0), .int (zDSet z k10)] := by
              refine G.ior (pc := 74) cx dX10_ifPaidOff_74 ?_
              refine G.istore (pc := 75) cx dX10_ifPaidOff_75 (by decide) rfl ?_
              refine G.iinc (pc := 77) cx dX10_ifPaidOff_77 (v := nI (k10 + 1)) (k := 5) rfl (nI_add k10 1) (by decide) rfl ?_
              refine G.goto (pc := 80) cx dX10_ifPaidOff_80 (tgt := 10) (by decide) ?_
              refine G.castL (lv' := [(0, .ref o), (1, .int q), (2, .int ((zPaid z k10) + (if 0 < zBal z k10 then zBal z k10 else 0))), (3, .int ((zDebt z k10) - (if zBal z k10 < 0 then zBal z k10 else 0))), (4, .int ((zDSet z k10) ||| (if zBal z k10 < 0 then 1 <<< (nI k10 &&& 31) else 0))), (5, .int (nI (k10 + 1)))]) [2, 3, 4, 5, 1, 0] rfl ?_
              refine G.lv0 (lv2 := [(0, .ref o), (1, .int q), (2, .int (zPaid z (k10 + 1))), (3, .int ((zDebt z k10) - (if zBal z k10 < 0 then zBal z k10 else 0))), (4, .int ((zDSet z k10) ||| (if zBal z k10 < 0 then 1 <<< (nI k10 &&& 31) else 0))), (5, .int (nI (k10 + 1)))]) (congrArg (fun q9 => ([(0, .ref o), (1, .int q), (2, .int q9), (3, .int ((zDebt z k10) - (if zBal z k10 < 0 then zBal z k10 else 0))), (4, .int ((zDSet z k10) ||| (if zBal z k10 < 0 then 1 <<< (nI k10 &&& 31) else 0))), (5, .int (nI (k10 + 1)))] : List (Nat × Value))) (show ((zPaid z k10) + (if 0 < zBal z k10 then zBal z k10 else 0) : Int32) = zPaid z (k10 + 1) from by rfl)) ?_
              refine G.lv0 (lv2 := [(0, .ref o), (1, .int q), (2, .int (zPaid z (k10 + 1))), (3, .int (zDebt z (k10 + 1))), (4, .int ((zDSet z k10) ||| (if zBal z k10 < 0 then 1 <<< (nI k10 &&& 31) else 0))), (5, .int (nI (k10 + 1)))]) (congrArg (fun q9 => ([(0, .ref o), (1, .int q), (2, .int (zPaid z (k10 + 1))), (3, .int q9), (4, .int ((zDSet z k10) ||| (if zBal z k10 < 0 then 1 <<< (nI k10 &&& 31) else 0))), (5, .int (nI (k10 + 1)))] : List (Nat × Value))) (show ((zDebt z k10) - (if zBal z k10 < 0 then zBal z k10 else 0) : Int32) = zDebt z (k10 + 1) from by rfl)) ?_
              refine G.lv0 (lv2 := [(0, .ref o), (1, .int q), (2, .int (zPaid z (k10 + 1))), (3, .int (zDebt z (k10 + 1))), (4, .int (zDSet z (k10 + 1))), (5, .int (nI (k10 + 1)))]) (congrArg (fun q9 => ([(0, .ref o), (1, .int q), (2, .int (zPaid z (k10 + 1))), (3, .int (zDebt z (k10 + 1))), (4, .int q9), (5, .int (nI (k10 + 1)))] : List (Nat × Value))) (show ((zDSet z k10) ||| (if zBal z k10 < 0 then 1 <<< (nI k10 &&& 31) else 0) : Int32) = zDSet z (k10 + 1) from by rfl)) ?_
              exact ih10 (k10 + 1) (by omega) (by omega)
            refine G.if_ge (pc := 63) cx dX10_ifPaidOff_63 (tgt := 73) (by decide) (fun cq63 => ?_) (fun cq63 => ?_)
            · skip
              refine G.iconst (pc := 73) cx dX10_ifPaidOff_73 (v := 0) (by decide) ?_
              refine G.castS (st' := [.int (if zBal z k10 < 0 then 1 <<< (nI k10 &&& 31) else 0), .int (zDSet z k10)]) (congrArg (fun q9 => ([.int q9, .int (zDSet z k10)] : List Value)) (show (0 : Int32) = if zBal z k10 < 0 then 1 <<< (nI k10 &&& 31) else 0 from by (try clear J74_5); (try clear J57_4); (try clear J43_3); (try clear J144_2); (try clear L10_1); (try clear ih10); (try clear hin9); (try clear cx); first | rfl | (refine b2_t ?_; grind) | (refine b2_f ?_; grind) | (refine (b2_t ?_).symm; grind) | (refine (b2_f ?_).symm; grind) | (simp [*]; done) | (simp_all; done) | grind)) ?_
              refine G.castL (lv' := [(0, .ref o), (1, .int q), (2, .int ((zPaid z k10) + (if 0 < zBal z k10 then zBal z k10 else 0))), (3, .int ((zDebt z k10) - (if zBal z k10 < 0 then zBal z k10 else 0))), (4, .int (zDSet z k10)), (5, .int (nI k10)), (6, .int (zBal z k10))]) [1, 2, 3, 0, 4, 5, 6] rfl ?_
              exact J74_5
            · skip
              refine G.iconst (pc := 66) cx dX10_ifPaidOff_66 (v := 1) (by decide) ?_
              refine G.iload (pc := 67) cx dX10_ifPaidOff_67 5 rfl ?_
              refine G.ishl (pc := 69) cx dX10_ifPaidOff_69 ?_
              refine G.goto (pc := 70) cx dX10_ifPaidOff_70 (tgt := 74) (by decide) ?_
              refine G.castS (st' := [.int (if zBal z k10 < 0 then 1 <<< (nI k10 &&& 31) else 0), .int (zDSet z k10)]) (congrArg (fun q9 => ([.int q9, .int (zDSet z k10)] : List Value)) (show (1 <<< ((nI k10) &&& 31) : Int32) = if zBal z k10 < 0 then 1 <<< (nI k10 &&& 31) else 0 from by (try clear J74_5); (try clear J57_4); (try clear J43_3); (try clear J144_2); (try clear L10_1); (try clear ih10); (try clear hin9); (try clear cx); first | rfl | (refine b2_t ?_; grind) | (refine b2_f ?_; grind) | (refine (b2_t ?_).symm; grind) | (refine (b2_f ?_).symm; grind) | (simp [*]; done) | (simp_all; done) | grind)) ?_
              refine G.castL (lv' := [(0, .ref o), (1, .int q), (2, .int ((zPaid z k10) + (if 0 < zBal z k10 then zBal z k10 else 0))), (3, .int ((zDebt z k10) - (if zBal z k10 < 0 then zBal z k10 else 0))), (4, .int (zDSet z k10)), (5, .int (nI k10)), (6, .int (zBal z k10))]) [1, 2, 3, 0, 4, 5, 6] rfl ?_
              exact J74_5
          refine G.if_ge (pc := 48) cx dX10_ifPaidOff_48 (tgt := 56) (by decide) (fun cq48 => ?_) (fun cq48 => ?_)
          · skip
            refine G.iconst (pc := 56) cx dX10_ifPaidOff_56 (v := 0) (by decide) ?_
            refine G.castS (st' := [.int (if zBal z k10 < 0 then zBal z k10 else 0), .int (zDebt z k10)]) (congrArg (fun q9 => ([.int q9, .int (zDebt z k10)] : List Value)) (show (0 : Int32) = if zBal z k10 < 0 then zBal z k10 else 0 from by (try clear J74_5); (try clear J57_4); (try clear J43_3); (try clear J144_2); (try clear L10_1); (try clear ih10); (try clear hin9); (try clear cx); first | rfl | (refine b2_t ?_; grind) | (refine b2_f ?_; grind) | (refine (b2_t ?_).symm; grind) | (refine (b2_f ?_).symm; grind) | (simp [*]; done) | (simp_all; done) | grind)) ?_
            refine G.castL (lv' := [(0, .ref o), (1, .int q), (2, .int ((zPaid z k10) + (if 0 < zBal z k10 then zBal z k10 else 0))), (3, .int (zDebt z k10)), (4, .int (zDSet z k10)), (5, .int (nI k10)), (6, .int (zBal z k10))]) [1, 2, 0, 3, 4, 5, 6] rfl ?_
            exact J57_4
          · skip
            refine G.iload (pc := 51) cx dX10_ifPaidOff_51 6 rfl ?_
            refine G.goto (pc := 53) cx dX10_ifPaidOff_53 (tgt := 57) (by decide) ?_
            refine G.castS (st' := [.int (if zBal z k10 < 0 then zBal z k10 else 0), .int (zDebt z k10)]) (congrArg (fun q9 => ([.int q9, .int (zDebt z k10)] : List Value)) (show (zBal z k10 : Int32) = if zBal z k10 < 0 then zBal z k10 else 0 from by (try clear J74_5); (try clear J57_4); (try clear J43_3); (try clear J144_2); (try clear L10_1); (try clear ih10); (try clear hin9); (try clear cx); first | rfl | (refine b2_t ?_; grind) | (refine b2_f ?_; grind) | (refine (b2_t ?_).symm; grind) | (refine (b2_f ?_).symm; grind) | (simp [*]; done) | (simp_all; done) | grind)) ?_
            refine G.castL (lv' := [(0, .ref o), (1, .int q), (2, .int ((zPaid z k10) + (if 0 < zBal z k10 then zBal z k10 else 0))), (3, .int (zDebt z k10)), (4, .int (zDSet z k10)), (5, .int (nI k10)), (6, .int (zBal z k10))]) [1, 2, 0, 3, 4, 5, 6] rfl ?_
            exact J57_4
        refine G.if_le (pc := 34) cx dX10_ifPaidOff_34 (tgt := 42) (by decide) (fun cq34 => ?_) (fun cq34 => ?_)
        · skip
          refine G.iconst (pc := 42) cx dX10_ifPaidOff_42 (v := 0) (by decide) ?_
          refine G.castS (st' := [.int (if 0 < zBal z k10 then zBal z k10 else 0), .int (zPaid z k10)]) (congrArg (fun q9 => ([.int q9, .int (zPaid z k10)] : List Value)) (show (0 : Int32) = if 0 < zBal z k10 then zBal z k10 else 0 from by (try clear J74_5); (try clear J57_4); (try clear J43_3); (try clear J144_2); (try clear L10_1); (try clear ih10); (try clear hin9); (try clear cx); first | rfl | (refine b2_t ?_; grind) | (refine b2_f ?_; grind) | (refine (b2_t ?_).symm; grind) | (refine (b2_f ?_).symm; grind) | (simp [*]; done) | (simp_all; done) | grind)) ?_
          refine G.castL (lv' := [(0, .ref o), (1, .int q), (2, .int (zPaid z k10)), (3, .int (zDebt z k10)), (4, .int (zDSet z k10)), (5, .int (nI k10)), (6, .int (zBal z k10))]) [1, 2, 3, 4, 5, 6, 0] rfl ?_
          exact J43_3
        · skip
          refine G.iload (pc := 37) cx dX10_ifPaidOff_37 0 rfl ?_
          refine G.goto (pc := 39) cx dX10_ifPaidOff_39 (tgt := 43) (by decide) ?_
          refine G.castS (st' := [.int (if 0 < zBal z k10 then zBal z k10 else 0), .int (zPaid z k10)]) (congrArg (fun q9 => ([.int q9, .int (zPaid z k10)] : List Value)) (show (zBal z k10 : Int32) = if 0 < zBal z k10 then zBal z k10 else 0 from by (try clear J74_5); (try clear J57_4); (try clear J43_3); (try clear J144_2); (try clear L10_1); (try clear ih10); (try clear hin9); (try clear cx); first | rfl | (refine b2_t ?_; grind) | (refine b2_f ?_; grind) | (refine (b2_t ?_).symm; grind) | (refine (b2_f ?_).symm; grind) | (simp [*]; done) | (simp_all; done) | grind)) ?_
          refine G.castL (lv' := [(0, .ref o), (1, .int q), (2, .int (zPaid z k10)), (3, .int (zDebt z k10)), (4, .int (zDSet z k10)), (5, .int (nI k10)), (6, .int (zBal z k10))]) [1, 2, 3, 4, 5, 6, 0] rfl ?_
          exact J43_3
  refine G.castL (lv' := [(0, .ref o), (1, .int q), (2, .int 0), (3, .int 0), (4, .int 0), (5, .int 0)]) [4, 5, 3, 2, 1, 0] rfl ?_
  refine G.lv0 (lv2 := [(0, .ref o), (1, .int q), (2, .int (zPaid z 0)), (3, .int 0), (4, .int 0), (5, .int 0)]) (congrArg (fun q9 => ([(0, .ref o), (1, .int q), (2, .int q9), (3, .int 0), (4, .int 0), (5, .int 0)] : List (Nat × Value))) (show (0 : Int32) = zPaid z 0 from by rfl)) ?_
  refine G.lv0 (lv2 := [(0, .ref o), (1, .int q), (2, .int (zPaid z 0)), (3, .int (zDebt z 0)), (4, .int 0), (5, .int 0)]) (congrArg (fun q9 => ([(0, .ref o), (1, .int q), (2, .int (zPaid z 0)), (3, .int q9), (4, .int 0), (5, .int 0)] : List (Nat × Value))) (show (0 : Int32) = zDebt z 0 from by rfl)) ?_
  refine G.lv0 (lv2 := [(0, .ref o), (1, .int q), (2, .int (zPaid z 0)), (3, .int (zDebt z 0)), (4, .int (zDSet z 0)), (5, .int 0)]) (congrArg (fun q9 => ([(0, .ref o), (1, .int q), (2, .int (zPaid z 0)), (3, .int (zDebt z 0)), (4, .int q9), (5, .int 0)] : List (Nat × Value))) (show (0 : Int32) = zDSet z 0 from by rfl)) ?_
  refine G.lv0 (lv2 := [(0, .ref o), (1, .int q), (2, .int (zPaid z 0)), (3, .int (zDebt z 0)), (4, .int (zDSet z 0)), (5, .int (nI 0))]) (congrArg (fun q9 => ([(0, .ref o), (1, .int q), (2, .int (zPaid z 0)), (3, .int (zDebt z 0)), (4, .int (zDSet z 0)), (5, .int q9)] : List (Nat × Value))) (show (0 : Int32) = nI 0 from by rfl)) ?_
  exact L10_1 (N + 1) 0 (by omega) (by omega)
set_option maxHeartbeats 4000000 in
set_option maxRecDepth 100000 in
theorem c_X10_poorest (l : Launch) (K : KT) (sz : Nat) (o : Nat) (z : Zt) (r : Rt) (V : VW) (p : Int32) (N : Nat) (hN : z 194 = nI N) (h16 : N ≤ 16) : Ct l K yX10_poorest cX10_poorest 7 (some .int) 3 [.ref o, .int p] (mw K o z r V) sz (some (.int (zPoorest z N p))) (mw K o z r V) sz 0 0 := by
  refine Ct.ofG (by decide) (Nat.le_of_ble_eq_true rfl) ?_
  intro p9 e9 s9 m9 a9 b9 t9 c9 cx hin9
  refine G.lv0 (lv2 := [(0, .ref o), (1, .int p)]) rfl ?_
  refine G.iload_n (pc := 0) cx dX10_poorest_0 rfl 1 rfl ?_
  refine G.if_ge (pc := 1) cx dX10_poorest_1 (tgt := 7) (by decide) (fun cq1 => ?_) (fun cq1 => ?_)
  · skip
    refine G.ldc (pc := 7) cx dX10_poorest_7 (v := (-1000004)) wm_ct_X10_182 ?_
    refine G.istore_n (pc := 9) cx dX10_poorest_9 rfl (by decide) rfl ?_
    refine G.iconst (pc := 10) cx dX10_poorest_10 (v := 0) (by decide) ?_
    refine G.istore_n (pc := 11) cx dX10_poorest_11 rfl (by decide) rfl ?_
    have L12_1 : ∀ (f k12 : Nat), N - k12 < f → k12 ≤ N → G K p9 l e9 (rmL 3 0 0) s9 m9 a9 b9 t9 c9 (MQ b9 (QCt K (some (.int (zPoorest z N p))) (mw K o z r V) sz) a9 s9 0 0 (kA K)) 7 (mw K o z r V) sz 0 0 12 [(0, .ref o), (1, .int p), (2, .int (zFound z N p k12)), (3, .int (nI k12))] [] := by
      intro f
      induction f with
      | zero => intro k12 h9; omega
      | succ f ih12 =>
        intro k12 h912 h812
        refine G.iload_n (pc := 12) cx dX10_poorest_12 rfl 3 rfl ?_
        refine G.aload_n (pc := 13) cx dX10_poorest_13 rfl 0 rfl ?_
        refine G.getM (pc := 14) cx dX10_poorest_14 0 wm_fl_X10_7 (by decide) rfl ?_
        refine G.sipush (pc := 17) cx dX10_poorest_17 (v := 194) (by decide) ?_
        refine G.ialdV (pc := 20) cx dX10_poorest_20 mw_z (j := 194) rfl (by omega) (by decide) ((cut_at (by omega)).trans (hN)) ?_
        refine G.icmp_geN (pc := 21) cx k12 N (by omega) (by omega) dX10_poorest_21 (tgt := 140) (by decide) (fun cq21 => ?_) (fun cq21 => ?_)
        · skip
          have ex12 : k12 = N := by omega
          try rw [ex12]
          refine G.iload_n (pc := 140) cx dX10_poorest_140 rfl 2 rfl ?_
          refine G.iret (pc := 141) cx rfl dX10_poorest_141 ?_ ?_ rfl
          · refine congrArg (fun x => some (Value.int x)) ?_
            (try clear L12_1); (try clear ih12); (try clear hin9); (try clear cx); exact if_neg (Int32.not_lt.mpr cq1)
          · rfl
        · skip
          refine G.iconst (pc := 24) cx dX10_poorest_24 (v := 0) (by decide) ?_
          refine G.istore (pc := 25) cx dX10_poorest_25 (by decide) rfl ?_
          refine G.iconst (pc := 27) cx dX10_poorest_27 (v := 0) (by decide) ?_
          refine G.istore (pc := 28) cx dX10_poorest_28 (by decide) rfl ?_
          have L30_2 : ∀ (f k30 : Nat), N - k30 < f → k30 ≤ N → G K p9 l e9 (rmL 3 0 0) s9 m9 a9 b9 t9 c9 (MQ b9 (QCt K (some (.int (zPoorest z N p))) (mw K o z r V) sz) a9 s9 0 0 (kA K)) 7 (mw K o z r V) sz 0 0 30 [(0, .ref o), (1, .int p), (2, .int (zFound z N p k12)), (3, .int (nI k12)), (4, .int (nI (zAhead z k12 k30))), (5, .int (nI k30))] [] := by
            intro f
            induction f with
            | zero => intro k30 h9; omega
            | succ f ih30 =>
              intro k30 h930 h830
              refine G.iload (pc := 30) cx dX10_poorest_30 5 rfl ?_
              refine G.aload_n (pc := 32) cx dX10_poorest_32 rfl 0 rfl ?_
              refine G.getM (pc := 33) cx dX10_poorest_33 0 wm_fl_X10_7 (by decide) rfl ?_
              refine G.sipush (pc := 36) cx dX10_poorest_36 (v := 194) (by decide) ?_
              refine G.ialdV (pc := 39) cx dX10_poorest_39 mw_z (j := 194) rfl (by omega) (by decide) ((cut_at (by omega)).trans (hN)) ?_
              refine G.icmp_geN (pc := 40) cx k30 N (by omega) (by omega) dX10_poorest_40 (tgt := 114) (by decide) (fun cq40 => ?_) (fun cq40 => ?_)
              · skip
                have ex30 : k30 = N := by omega
                try rw [ex30]
                refine G.aload_n (pc := 114) cx dX10_poorest_114 rfl 0 rfl ?_
                refine G.iload_n (pc := 115) cx dX10_poorest_115 rfl 3 rfl ?_
                refine G.callV0 (pc := 116) (rest := []) (st1 := [.int (b2 (z (10 * k12 + 2) = 2))]) cx (c_X10_isGone l K sz o z r V k12 (by omega)) ok_X10_isGone dX10_poorest_116 wm_ml_X10_42 rfl mw_m rfl rfl (Nat.le_of_ble_eq_true rfl) ⟨Nat.le_of_ble_eq_true rfl, Nat.le_of_ble_eq_true rfl⟩ rfl ?_
                refine G.if_neB (pc := 119) cx dX10_poorest_119 (tgt := 132) (by decide) (fun cq119 => ?_) (fun cq119 => ?_)
                · skip
                  refine G.iload_n (pc := 132) cx dX10_poorest_132 rfl 2 rfl ?_
                  refine G.istore_n (pc := 133) cx dX10_poorest_133 rfl (by decide) rfl ?_
                  refine G.iinc (pc := 134) cx dX10_poorest_134 (v := nI (k12 + 1)) (k := 3) rfl (nI_add k12 1) (by decide) rfl ?_
                  refine G.goto (pc := 137) cx dX10_poorest_137 (tgt := 12) (by decide) ?_
                  refine G.castL (lv' := [(0, .ref o), (1, .int p), (2, .int (zFound z N p k12)), (3, .int (nI (k12 + 1)))]) [2, 3, 1, 0] rfl ?_
                  refine G.lv0 (lv2 := [(0, .ref o), (1, .int p), (2, .int (zFound z N p (k12 + 1))), (3, .int (nI (k12 + 1)))]) (congrArg (fun q9 => ([(0, .ref o), (1, .int p), (2, .int q9), (3, .int (nI (k12 + 1)))] : List (Nat × Value))) (show (zFound z N p k12 : Int32) = zFound z N p (k12 + 1) from by first | rfl | (simp [zFound, *]; done))) ?_
                  exact ih12 (k12 + 1) (by omega) (by omega)
                · skip
                  refine G.iload (pc := 122) cx dX10_poorest_122 4 rfl ?_
                  refine G.iload_n (pc := 124) cx dX10_poorest_124 rfl 1 rfl ?_
                  refine G.icmp_ne (pc := 125) cx dX10_poorest_125 (tgt := 132) (by decide) (fun cq125 => ?_) (fun cq125 => ?_)
                  · skip
                    refine G.iload_n (pc := 132) cx dX10_poorest_132 rfl 2 rfl ?_
                    refine G.istore_n (pc := 133) cx dX10_poorest_133 rfl (by decide) rfl ?_
                    refine G.iinc (pc := 134) cx dX10_poorest_134 (v := nI (k12 + 1)) (k := 3) rfl (nI_add k12 1) (by decide) rfl ?_
                    refine G.goto (pc := 137) cx dX10_poorest_137 (tgt := 12) (by decide) ?_
                    refine G.castL (lv' := [(0, .ref o), (1, .int p), (2, .int (zFound z N p k12)), (3, .int (nI (k12 + 1)))]) [2, 3, 1, 0] rfl ?_
                    refine G.lv0 (lv2 := [(0, .ref o), (1, .int p), (2, .int (zFound z N p (k12 + 1))), (3, .int (nI (k12 + 1)))]) (congrArg (fun q9 => ([(0, .ref o), (1, .int p), (2, .int q9), (3, .int (nI (k12 + 1)))] : List (Nat × Value))) (show (zFound z N p k12 : Int32) = zFound z N p (k12 + 1) from by first | rfl | (simp [zFound, *]; done))) ?_
                    exact ih12 (k12 + 1) (by omega) (by omega)
                  · skip
                    refine G.iload_n (pc := 128) cx dX10_poorest_128 rfl 3 rfl ?_
                    refine G.goto (pc := 129) cx dX10_poorest_129 (tgt := 133) (by decide) ?_
                    refine G.istore_n (pc := 133) cx dX10_poorest_133 rfl (by decide) rfl ?_
                    refine G.iinc (pc := 134) cx dX10_poorest_134 (v := nI (k12 + 1)) (k := 3) rfl (nI_add k12 1) (by decide) rfl ?_
                    refine G.goto (pc := 137) cx dX10_poorest_137 (tgt := 12) (by decide) ?_
                    refine G.castL (lv' := [(0, .ref o), (1, .int p), (2, .int (nI k12)), (3, .int (nI (k12 + 1)))]) [2, 3, 1, 0] rfl ?_
                    refine G.lv0 (lv2 := [(0, .ref o), (1, .int p), (2, .int (zFound z N p (k12 + 1))), (3, .int (nI (k12 + 1)))]) (congrArg (fun q9 => ([(0, .ref o), (1, .int p), (2, .int q9), (3, .int (nI (k12 + 1)))] : List (Nat × Value))) (show (nI k12 : Int32) = zFound z N p (k12 + 1) from by first | rfl | (simp [zFound, *]; done))) ?_
                    exact ih12 (k12 + 1) (by omega) (by omega)
              · skip
                refine G.aload_n (pc := 43) cx dX10_poorest_43 rfl 0 rfl ?_
                refine G.iload (pc := 44) cx dX10_poorest_44 5 rfl ?_
                refine G.callV0 (pc := 46) (rest := []) (st1 := [.int (zBal z k30)]) cx (c_X10_balance l K sz o z r V k30 (by omega)) ok_X10_balance dX10_poorest_46 wm_ml_X10_95 rfl mw_m rfl rfl (Nat.le_of_ble_eq_true rfl) ⟨Nat.le_of_ble_eq_true rfl, Nat.le_of_ble_eq_true rfl⟩ rfl ?_
                refine G.aload_n (pc := 49) cx dX10_poorest_49 rfl 0 rfl ?_
                refine G.iload_n (pc := 50) cx dX10_poorest_50 rfl 3 rfl ?_
                refine G.callV0 (pc := 51) (rest := [.int (zBal z k30)]) (st1 := [.int (zBal z k12), .int (zBal z k30)]) cx (c_X10_balance l K sz o z r V k12 (by omega)) ok_X10_balance dX10_poorest_51 wm_ml_X10_95 rfl mw_m rfl rfl (Nat.le_of_ble_eq_true rfl) ⟨Nat.le_of_ble_eq_true rfl, Nat.le_of_ble_eq_true rfl⟩ rfl ?_
                have J82_3 : G K p9 l e9 (rmL 3 0 0) s9 m9 a9 b9 t9 c9 (MQ b9 (QCt K (some (.int (zPoorest z N p))) (mw K o z r V) sz) a9 s9 0 0 (kA K)) 7 (mw K o z r V) sz 0 0 82 [(0, .ref o), (1, .int p), (2, .int (zFound z N p k12)), (3, .int (nI k12)), (4, .int (nI (zAhead z k12 k30))), (5, .int (nI k30))] [.int (b2 (zBal z k30 < zBal z k12 ∨ zBal z k30 = zBal z k12 ∧ k30 < k12))] := by
                  refine G.istore (pc := 82) cx dX10_poorest_82 (by decide) rfl ?_
                  refine G.iload (pc := 84) cx dX10_poorest_84 5 rfl ?_
                  refine G.aload_n (pc := 86) cx dX10_poorest_86 rfl 1 rfl ?_
                  refine G.iload (pc := 87) cx dX10_poorest_87 6 rfl ?_
                  refine G.callV0 (pc := 89) (rest := [.int (nI (zAhead z k12 k30))]) (st1 := [.int (b2 (z (10 * k30 + 2) = 2)), .int (nI (zAhead z k12 k30))]) cx (c_X10_isGone l K sz o z r V k30 (by omega)) ok_X10_isGone dX10_poorest_89 wm_ml_X10_42 rfl mw_m rfl rfl (Nat.le_of_ble_eq_true rfl) ⟨Nat.le_of_ble_eq_true rfl, Nat.le_of_ble_eq_true rfl⟩ rfl ?_
                  refine G.if_neB (pc := 92) cx dX10_poorest_92 (tgt := 104) (by decide) (fun cq92 => ?_) (fun cq92 => ?_)
                  · skip
                    refine G.iconst (pc := 104) cx dX10_poorest_104 (v := 0) (by decide) ?_
                    refine G.iaddN (pc := 105) cx dX10_poorest_105 (zAhead z k12 k30) 0 ?_
                    refine G.istore (pc := 106) cx dX10_poorest_106 (by decide) rfl ?_
                    refine G.iinc (pc := 108) cx dX10_poorest_108 (v := nI (k30 + 1)) (k := 6) rfl (nI_add k30 1) (by decide) rfl ?_
                    refine G.goto (pc := 111) cx dX10_poorest_111 (tgt := 30) (by decide) ?_
                    refine G.castL (lv' := [(0, .ref o), (1, .int p), (2, .int (zFound z N p k12)), (3, .int (nI k12)), (4, .int (nI ((zAhead z k12 k30) + 0))), (5, .int (nI (k30 + 1)))]) [3, 4, 5, 6, 1, 0] rfl ?_
                    refine G.lv0 (lv2 := [(0, .ref o), (1, .int p), (2, .int (zFound z N p k12)), (3, .int (nI k12)), (4, .int (nI (zAhead z k12 (k30 + 1)))), (5, .int (nI (k30 + 1)))]) (congrArg (fun q9 => ([(0, .ref o), (1, .int p), (2, .int (zFound z N p k12)), (3, .int (nI k12)), (4, .int q9), (5, .int (nI (k30 + 1)))] : List (Nat × Value))) (show (nI ((zAhead z k12 k30) + 0) : Int32) = nI (zAhead z k12 (k30 + 1)) from by first | rfl | (simp [zAhead, *]; done) | (simp [zAhead, *, nI_1]; done) | (simp_all [zAhead]; done))) ?_
                    exact ih30 (k30 + 1) (by omega) (by omega)
                  · skip
                    refine G.iload (pc := 95) cx dX10_poorest_95 0 rfl ?_
                    refine G.if_eqB (pc := 97) cx dX10_poorest_97 (tgt := 104) (by decide) (fun cq97 => ?_) (fun cq97 => ?_)
                    · skip
                      refine G.iconst (pc := 104) cx dX10_poorest_104 (v := 0) (by decide) ?_
                      refine G.iaddN (pc := 105) cx dX10_poorest_105 (zAhead z k12 k30) 0 ?_
                      refine G.istore (pc := 106) cx dX10_poorest_106 (by decide) rfl ?_
                      refine G.iinc (pc := 108) cx dX10_poorest_108 (v := nI (k30 + 1)) (k := 6) rfl (nI_add k30 1) (by decide) rfl ?_
                      refine G.goto (pc := 111) cx dX10_poorest_111 (tgt := 30) (by decide) ?_
                      refine G.castL (lv' := [(0, .ref o), (1, .int p), (2, .int (zFound z N p k12)), (3, .int (nI k12)), (4, .int (nI ((zAhead z k12 k30) + 0))), (5, .int (nI (k30 + 1)))]) [3, 4, 5, 6, 1, 0] rfl ?_
                      refine G.lv0 (lv2 := [(0, .ref o), (1, .int p), (2, .int (zFound z N p k12)), (3, .int (nI k12)), (4, .int (nI (zAhead z k12 (k30 + 1)))), (5, .int (nI (k30 + 1)))]) (congrArg (fun q9 => ([(0, .ref o), (1, .int p), (2, .int (zFound z N p k12)), (3, .int (nI k12)), (4, .int q9), (5, .int (nI (k30 + 1)))] : List (Nat × Value))) (show (nI ((zAhead z k12 k30) + 0) : Int32) = nI (zAhead z k12 (k30 + 1)) from by first | rfl | (simp [zAhead, *]; done) | (simp [zAhead, *, nI_1]; done) | (simp_all [zAhead]; done))) ?_
                      exact ih30 (k30 + 1) (by omega) (by omega)
                    · skip
                      refine G.iconst (pc := 100) cx dX10_poorest_100 (v := 1) (by decide) ?_
                      refine G.goto (pc := 101) cx dX10_poorest_101 (tgt := 105) (by decide) ?_
                      refine G.iaddN (pc := 105) cx dX10_poorest_105 (zAhead z k12 k30) 1 ?_
                      refine G.istore (pc := 106) cx dX10_poorest_106 (by decide) rfl ?_
                      refine G.iinc (pc := 108) cx dX10_poorest_108 (v := nI (k30 + 1)) (k := 6) rfl (nI_add k30 1) (by decide) rfl ?_
                      refine G.goto (pc := 111) cx dX10_poorest_111 (tgt := 30) (by decide) ?_
                      refine G.castL (lv' := [(0, .ref o), (1, .int p), (2, .int (zFound z N p k12)), (3, .int (nI k12)), (4, .int (nI ((zAhead z k12 k30) + 1))), (5, .int (nI (k30 + 1)))]) [3, 4, 5, 6, 1, 0] rfl ?_
                      refine G.lv0 (lv2 := [(0, .ref o), (1, .int p), (2, .int (zFound z N p k12)), (3, .int (nI k12)), (4, .int (nI (zAhead z k12 (k30 + 1)))), (5, .int (nI (k30 + 1)))]) (congrArg (fun q9 => ([(0, .ref o), (1, .int p), (2, .int (zFound z N p k12)), (3, .int (nI k12)), (4, .int q9), (5, .int (nI (k30 + 1)))] : List (Nat × Value))) (show (nI ((zAhead z k12 k30) + 1) : Int32) = nI (zAhead z k12 (k30 + 1)) from by first | rfl | (simp [zAhead, *]; done) | (simp [zAhead, *, nI_1]; done) | (simp_all [zAhead]; done))) ?_
                      exact ih30 (k30 + 1) (by omega) (by omega)
                refine G.icmp_lt (pc := 54) cx dX10_poorest_54 (tgt := 77) (by decide) (fun cq54 => ?_) (fun cq54 => ?_)
                · skip
                  refine G.iconst (pc := 77) cx dX10_poorest_77 (v := 1) (by decide) ?_
                  refine G.goto (pc := 78) cx dX10_poorest_78 (tgt := 82) (by decide) ?_
                  refine G.castS (st' := [.int (b2 (zBal z k30 < zBal z k12 ∨ zBal z k30 = zBal z k12 ∧ k30 < k12))]) (congrArg (fun q9 => ([.int q9] : List Value)) (show (1 : Int32) = b2 (zBal z k30 < zBal z k12 ∨ zBal z k30 = zBal z k12 ∧ k30 < k12) from by (try clear J82_3); (try clear L30_2); (try clear ih30); (try clear L12_1); (try clear ih12); (try clear hin9); (try clear cx); first | rfl | (refine b2_t ?_; grind) | (refine b2_f ?_; grind) | (refine (b2_t ?_).symm; grind) | (refine (b2_f ?_).symm; grind) | (simp [*]; done) | (simp_all; done) | grind)) ?_
                  exact J82_3
                · skip
                  refine G.aload_n (pc := 57) cx dX10_poorest_57 rfl 0 rfl ?_
                  refine G.iload (pc := 58) cx dX10_poorest_58 5 rfl ?_
                  refine G.callV0 (pc := 60) (rest := []) (st1 := [.int (zBal z k30)]) cx (c_X10_balance l K sz o z r V k30 (by omega)) ok_X10_balance dX10_poorest_60 wm_ml_X10_95 rfl mw_m rfl rfl (Nat.le_of_ble_eq_true rfl) ⟨Nat.le_of_ble_eq_true rfl, Nat.le_of_ble_eq_true rfl⟩ rfl ?_
                  refine G.aload_n (pc := 63) cx dX10_poorest_63 rfl 0 rfl ?_
                  refine G.iload_n (pc := 64) cx dX10_poorest_64 rfl 3 rfl ?_
                  refine G.callV0 (pc := 65) (rest := [.int (zBal z k30)]) (st1 := [.int (zBal z k12), .int (zBal z k30)]) cx (c_X10_balance l K sz o z r V k12 (by omega)) ok_X10_balance dX10_poorest_65 wm_ml_X10_95 rfl mw_m rfl rfl (Nat.le_of_ble_eq_true rfl) ⟨Nat.le_of_ble_eq_true rfl, Nat.le_of_ble_eq_true rfl⟩ rfl ?_
                  refine G.icmp_ne (pc := 68) cx dX10_poorest_68 (tgt := 81) (by decide) (fun cq68 => ?_) (fun cq68 => ?_)
                  · skip
                    refine G.iconst (pc := 81) cx dX10_poorest_81 (v := 0) (by decide) ?_
                    refine G.castS (st' := [.int (b2 (zBal z k30 < zBal z k12 ∨ zBal z k30 = zBal z k12 ∧ k30 < k12))]) (congrArg (fun q9 => ([.int q9] : List Value)) (show (0 : Int32) = b2 (zBal z k30 < zBal z k12 ∨ zBal z k30 = zBal z k12 ∧ k30 < k12) from by (try clear J82_3); (try clear L30_2); (try clear ih30); (try clear L12_1); (try clear ih12); (try clear hin9); (try clear cx); first | rfl | (refine b2_t ?_; grind) | (refine b2_f ?_; grind) | (refine (b2_t ?_).symm; grind) | (refine (b2_f ?_).symm; grind) | (simp [*]; done) | (simp_all; done) | grind)) ?_
                    exact J82_3
                  · skip
                    refine G.iload (pc := 71) cx dX10_poorest_71 5 rfl ?_
                    refine G.iload_n (pc := 73) cx dX10_poorest_73 rfl 3 rfl ?_
                    refine G.icmp_geN (pc := 74) cx k30 k12 (by omega) (by omega) dX10_poorest_74 (tgt := 81) (by decide) (fun cq74 => ?_) (fun cq74 => ?_)
                    · skip
                      refine G.iconst (pc := 81) cx dX10_poorest_81 (v := 0) (by decide) ?_
                      refine G.castS (st' := [.int (b2 (zBal z k30 < zBal z k12 ∨ zBal z k30 = zBal z k12 ∧ k30 < k12))]) (congrArg (fun q9 => ([.int q9] : List Value)) (show (0 : Int32) = b2 (zBal z k30 < zBal z k12 ∨ zBal z k30 = zBal z k12 ∧ k30 < k12) from by (try clear J82_3); (try clear L30_2); (try clear ih30); (try clear L12_1); (try clear ih12); (try clear hin9); (try clear cx); first | rfl | (refine b2_t ?_; grind) | (refine b2_f ?_; grind) | (refine (b2_t ?_).symm; grind) | (refine (b2_f ?_).symm; grind) | (simp [*]; done) | (simp_all; done) | grind)) ?_
                      exact J82_3
                    · skip
                      refine G.iconst (pc := 77) cx dX10_poorest_77 (v := 1) (by decide) ?_
                      refine G.goto (pc := 78) cx dX10_poorest_78 (tgt := 82) (by decide) ?_
                      refine G.castS (st' := [.int (b2 (zBal z k30 < zBal z k12 ∨ zBal z k30 = zBal z k12 ∧ k30 < k12))]) (congrArg (fun q9 => ([.int q9] : List Value)) (show (1 : Int32) = b2 (zBal z k30 < zBal z k12 ∨ zBal z k30 = zBal z k12 ∧ k30 < k12) from by (try clear J82_3); (try clear L30_2); (try clear ih30); (try clear L12_1); (try clear ih12); (try clear hin9); (try clear cx); first | rfl | (refine b2_t ?_; grind) | (refine b2_f ?_; grind) | (refine (b2_t ?_).symm; grind) | (refine (b2_f ?_).symm; grind) | (simp [*]; done) | (simp_all; done) | grind)) ?_
                      exact J82_3
          refine G.castL (lv' := [(0, .ref o), (1, .int p), (2, .int (zFound z N p k12)), (3, .int (nI k12)), (4, .int 0), (5, .int 0)]) [2, 3, 4, 5, 1, 0] rfl ?_
          refine G.lv0 (lv2 := [(0, .ref o), (1, .int p), (2, .int (zFound z N p k12)), (3, .int (nI k12)), (4, .int (nI (zAhead z k12 0))), (5, .int 0)]) (congrArg (fun q9 => ([(0, .ref o), (1, .int p), (2, .int (zFound z N p k12)), (3, .int (nI k12)), (4, .int q9), (5, .int 0)] : List (Nat × Value))) (show (0 : Int32) = nI (zAhead z k12 0) from by rfl)) ?_
          refine G.lv0 (lv2 := [(0, .ref o), (1, .int p), (2, .int (zFound z N p k12)), (3, .int (nI k12)), (4, .int (nI (zAhead z k12 0))), (5, .int (nI 0))]) (congrArg (fun q9 => ([(0, .ref o), (1, .int p), (2, .int (zFound z N p k12)), (3, .int (nI k12)), (4, .int (nI (zAhead z k12 0))), (5, .int q9)] : List (Nat × Value))) (show (0 : Int32) = nI 0 from by rfl)) ?_
          exact L30_2 (N + 1) 0 (by omega) (by omega)
    refine G.castL (lv' := [(0, .ref o), (1, .int p), (2, .int (-1000004)), (3, .int 0)]) [2, 3, 1, 0] rfl ?_
    refine G.lv0 (lv2 := [(0, .ref o), (1, .int p), (2, .int (zFound z N p 0)), (3, .int 0)]) (congrArg (fun q9 => ([(0, .ref o), (1, .int p), (2, .int q9), (3, .int 0)] : List (Nat × Value))) (show ((-1000004) : Int32) = zFound z N p 0 from by rfl)) ?_
    refine G.lv0 (lv2 := [(0, .ref o), (1, .int p), (2, .int (zFound z N p 0)), (3, .int (nI 0))]) (congrArg (fun q9 => ([(0, .ref o), (1, .int p), (2, .int (zFound z N p 0)), (3, .int q9)] : List (Nat × Value))) (show (0 : Int32) = nI 0 from by rfl)) ?_
    exact L12_1 (N + 1) 0 (by omega) (by omega)
  · skip
    refine G.ldc (pc := 4) cx dX10_poorest_4 (v := (-1000001)) wm_ct_X10_64 ?_
    refine G.iret (pc := 6) cx rfl dX10_poorest_6 ?_ ?_ rfl
    · refine congrArg (fun x => some (Value.int x)) ?_
      (try clear J82_3); (try clear L30_2); (try clear ih30); (try clear L12_1); (try clear ih12); (try clear hin9); (try clear cx); exact if_pos (Int32.not_le.mp cq1)
    · rfl
set_option maxHeartbeats 4000000 in
set_option maxRecDepth 100000 in
theorem c_X10_count (l : Launch) (K : KT) (sz : Nat) (o : Nat) (z : Zt) (r : Rt) (V : VW) (q : Int32) (N : Nat) (hN : z 194 = nI N) (h16 : N ≤ 16) : Ct l K yX10_count cX10_count 2 (some .int) 2 [.ref o, .int q] (mw K o z r V) sz (some (.int (zCount z N r.2.2.2.2 q))) (mw K o z r V) sz 0 0 := by
  refine Ct.ofG (by decide) (Nat.le_of_ble_eq_true rfl) ?_
  intro p9 e9 s9 m9 a9 b9 t9 c9 cx hin9
  refine G.lv0 (lv2 := [(0, .ref o), (1, .int q)]) rfl ?_
  refine G.iload_n (pc := 0) cx dX10_count_0 rfl 1 rfl ?_
  refine G.bipush (pc := 1) cx dX10_count_1 (v := 8) (by decide) ?_
  refine G.bipush (pc := 3) cx dX10_count_3 (v := 14) (by decide) ?_
  refine G.callS0 (pc := 5) (rest := []) (st1 := [.int (b2 (8 ≤ q ∧ q ≤ 14))]) cx (c_X10_in l K sz q 8 14 (mw K o z r V)) ok_X10_in dX10_count_5 wm_ml_X10_25 rfl rfl (Nat.le_of_ble_eq_true rfl) ⟨Nat.le_of_ble_eq_true rfl, Nat.le_of_ble_eq_true rfl⟩ rfl ?_
  refine G.if_eqB (pc := 8) cx dX10_count_8 (tgt := 25) (by decide) (fun cq8 => ?_) (fun cq8 => ?_)
  · skip
    refine G.iload_n (pc := 25) cx dX10_count_25 rfl 1 rfl ?_
    refine G.bipush (pc := 26) cx dX10_count_26 (v := 20) (by decide) ?_
    refine G.bipush (pc := 28) cx dX10_count_28 (v := 22) (by decide) ?_
    refine G.callS0 (pc := 30) (rest := []) (st1 := [.int (b2 (20 ≤ q ∧ q ≤ 22))]) cx (c_X10_in l K sz q 20 22 (mw K o z r V)) ok_X10_in dX10_count_30 wm_ml_X10_25 rfl rfl (Nat.le_of_ble_eq_true rfl) ⟨Nat.le_of_ble_eq_true rfl, Nat.le_of_ble_eq_true rfl⟩ rfl ?_
    refine G.if_eqB (pc := 33) cx dX10_count_33 (tgt := 50) (by decide) (fun cq33 => ?_) (fun cq33 => ?_)
    · skip
      refine G.iload_n (pc := 50) cx dX10_count_50 rfl 1 rfl ?_
      by_cases sw51_0 : q = 0
      · subst sw51_0
        refine G.tableIn (pc := 51) cx dX10_count_51 (off := 89) (tgt := 140) (by decide) (by decide) (by decide) (by decide) ?_
        refine G.aload_n (pc := 140) cx dX10_count_140 rfl 0 rfl ?_
        refine G.getM (pc := 141) cx dX10_count_141 0 wm_fl_X10_7 (by decide) rfl ?_
        refine G.sipush (pc := 144) cx dX10_count_144 (v := 190) (by decide) ?_
        refine G.ialdV (pc := 147) cx dX10_count_147 mw_z (j := 190) rfl (by omega) (by decide) (cut_at (by omega)) ?_
        refine G.iret (pc := 148) cx rfl dX10_count_148 ?_ ?_ rfl
        · refine congrArg (fun x => some (Value.int x)) ?_
          (try clear hin9); (try clear cx); refine (if_neg cq8).trans ((if_neg cq33).trans ?_); first | (simp; done) | (simp [*]; done)
        · rfl
      by_cases sw51_1 : q = 1
      · subst sw51_1
        refine G.tableIn (pc := 51) cx dX10_count_51 (off := 98) (tgt := 149) (by decide) (by decide) (by decide) (by decide) ?_
        refine G.aload_n (pc := 149) cx dX10_count_149 rfl 0 rfl ?_
        refine G.getM (pc := 150) cx dX10_count_150 0 wm_fl_X10_7 (by decide) rfl ?_
        refine G.sipush (pc := 153) cx dX10_count_153 (v := 191) (by decide) ?_
        refine G.ialdV (pc := 156) cx dX10_count_156 mw_z (j := 191) rfl (by omega) (by decide) (cut_at (by omega)) ?_
        refine G.iret (pc := 157) cx rfl dX10_count_157 ?_ ?_ rfl
        · refine congrArg (fun x => some (Value.int x)) ?_
          (try clear hin9); (try clear cx); refine (if_neg cq8).trans ((if_neg cq33).trans ?_); first | (simp; done) | (simp [*]; done)
        · rfl
      by_cases sw51_2 : q = 2
      · subst sw51_2
        refine G.tableIn (pc := 51) cx dX10_count_51 (off := 107) (tgt := 158) (by decide) (by decide) (by decide) (by decide) ?_
        refine G.aload_n (pc := 158) cx dX10_count_158 rfl 0 rfl ?_
        refine G.getM (pc := 159) cx dX10_count_159 0 wm_fl_X10_7 (by decide) rfl ?_
        refine G.sipush (pc := 162) cx dX10_count_162 (v := 192) (by decide) ?_
        refine G.ialdV (pc := 165) cx dX10_count_165 mw_z (j := 192) rfl (by omega) (by decide) (cut_at (by omega)) ?_
        refine G.iret (pc := 166) cx rfl dX10_count_166 ?_ ?_ rfl
        · refine congrArg (fun x => some (Value.int x)) ?_
          (try clear hin9); (try clear cx); refine (if_neg cq8).trans ((if_neg cq33).trans ?_); first | (simp; done) | (simp [*]; done)
        · rfl
      by_cases sw51_3 : q = 3
      · subst sw51_3
        refine G.tableIn (pc := 51) cx dX10_count_51 (off := 116) (tgt := 167) (by decide) (by decide) (by decide) (by decide) ?_
        refine G.aload_n (pc := 167) cx dX10_count_167 rfl 0 rfl ?_
        refine G.getM (pc := 168) cx dX10_count_168 0 wm_fl_X10_7 (by decide) rfl ?_
        refine G.sipush (pc := 171) cx dX10_count_171 (v := 193) (by decide) ?_
        refine G.ialdV (pc := 174) cx dX10_count_174 mw_z (j := 193) rfl (by omega) (by decide) (cut_at (by omega)) ?_
        refine G.iret (pc := 175) cx rfl dX10_count_175 ?_ ?_ rfl
        · refine congrArg (fun x => some (Value.int x)) ?_
          (try clear hin9); (try clear cx); refine (if_neg cq8).trans ((if_neg cq33).trans ?_); first | (simp; done) | (simp [*]; done)
        · rfl
      by_cases sw51_4 : q = 4
      · subst sw51_4
        refine G.tableIn (pc := 51) cx dX10_count_51 (off := 125) (tgt := 176) (by decide) (by decide) (by decide) (by decide) ?_
        refine G.aload_n (pc := 176) cx dX10_count_176 rfl 0 rfl ?_
        refine G.getM (pc := 177) cx dX10_count_177 0 wm_fl_X10_7 (by decide) rfl ?_
        refine G.sipush (pc := 180) cx dX10_count_180 (v := 194) (by decide) ?_
        refine G.ialdV (pc := 183) cx dX10_count_183 mw_z (j := 194) rfl (by omega) (by decide) ((cut_at (by omega)).trans (hN)) ?_
        refine G.iret (pc := 184) cx rfl dX10_count_184 ?_ ?_ rfl
        · refine congrArg (fun x => some (Value.int x)) ?_
          (try clear hin9); (try clear cx); refine (if_neg cq8).trans ((if_neg cq33).trans ?_); first | (simp; done) | (simp [*]; done)
        · rfl
      by_cases sw51_5 : q = 5
      · subst sw51_5
        refine G.tableIn (pc := 51) cx dX10_count_51 (off := 134) (tgt := 185) (by decide) (by decide) (by decide) (by decide) ?_
        refine G.aload_n (pc := 185) cx dX10_count_185 rfl 0 rfl ?_
        refine G.iconst (pc := 186) cx dX10_count_186 (v := 0) (by decide) ?_
        refine G.callV0 (pc := 187) (rest := []) (st1 := [.int (zSet z 0 N)]) cx (c_X10_inPlace l K sz o z r V 0 N (by assumption) (by omega)) ok_X10_inPlace dX10_count_187 wm_ml_X10_135 rfl mw_m rfl rfl (Nat.le_of_ble_eq_true rfl) ⟨Nat.le_of_ble_eq_true rfl, Nat.le_of_ble_eq_true rfl⟩ rfl ?_
        refine G.iret (pc := 190) cx rfl dX10_count_190 ?_ ?_ rfl
        · refine congrArg (fun x => some (Value.int x)) ?_
          (try clear hin9); (try clear cx); refine (if_neg cq8).trans ((if_neg cq33).trans ?_); first | (simp; done) | (simp [*]; done)
        · rfl
      by_cases sw51_6 : q = 6
      · subst sw51_6
        refine G.tableIn (pc := 51) cx dX10_count_51 (off := 140) (tgt := 191) (by decide) (by decide) (by decide) (by decide) ?_
        refine G.aload_n (pc := 191) cx dX10_count_191 rfl 0 rfl ?_
        refine G.iconst (pc := 192) cx dX10_count_192 (v := 1) (by decide) ?_
        refine G.callV0 (pc := 193) (rest := []) (st1 := [.int (zSet z 1 N)]) cx (c_X10_inPlace l K sz o z r V 1 N (by assumption) (by omega)) ok_X10_inPlace dX10_count_193 wm_ml_X10_135 rfl mw_m rfl rfl (Nat.le_of_ble_eq_true rfl) ⟨Nat.le_of_ble_eq_true rfl, Nat.le_of_ble_eq_true rfl⟩ rfl ?_
        refine G.iret (pc := 196) cx rfl dX10_count_196 ?_ ?_ rfl
        · refine congrArg (fun x => some (Value.int x)) ?_
          (try clear hin9); (try clear cx); refine (if_neg cq8).trans ((if_neg cq33).trans ?_); first | (simp; done) | (simp [*]; done)
        · rfl
      by_cases sw51_7 : q = 7
      · subst sw51_7
        refine G.tableIn (pc := 51) cx dX10_count_51 (off := 146) (tgt := 197) (by decide) (by decide) (by decide) (by decide) ?_
        refine G.aload_n (pc := 197) cx dX10_count_197 rfl 0 rfl ?_
        refine G.iconst (pc := 198) cx dX10_count_198 (v := 2) (by decide) ?_
        refine G.callV0 (pc := 199) (rest := []) (st1 := [.int (zSet z 2 N)]) cx (c_X10_inPlace l K sz o z r V 2 N (by assumption) (by omega)) ok_X10_inPlace dX10_count_199 wm_ml_X10_135 rfl mw_m rfl rfl (Nat.le_of_ble_eq_true rfl) ⟨Nat.le_of_ble_eq_true rfl, Nat.le_of_ble_eq_true rfl⟩ rfl ?_
        refine G.iret (pc := 202) cx rfl dX10_count_202 ?_ ?_ rfl
        · refine congrArg (fun x => some (Value.int x)) ?_
          (try clear hin9); (try clear cx); refine (if_neg cq8).trans ((if_neg cq33).trans ?_); first | (simp; done) | (simp [*]; done)
        · rfl
      by_cases sw51_15 : q = 15
      · subst sw51_15
        refine G.tableIn (pc := 51) cx dX10_count_51 (off := 152) (tgt := 203) (by decide) (by decide) (by decide) (by decide) ?_
        refine G.ldc (pc := 203) cx dX10_count_203 (v := 100000) wm_ct_X10_189 ?_
        refine G.aload_n (pc := 205) cx dX10_count_205 rfl 0 rfl ?_
        refine G.getM (pc := 206) cx dX10_count_206 0 wm_fl_X10_7 (by decide) rfl ?_
        refine G.sipush (pc := 209) cx dX10_count_209 (v := 202) (by decide) ?_
        refine G.ialdV (pc := 212) cx dX10_count_212 mw_z (j := 202) rfl (by omega) (by decide) (cut_at (by omega)) ?_
        refine G.iadd (pc := 213) cx dX10_count_213 ?_
        refine G.iret (pc := 214) cx rfl dX10_count_214 ?_ ?_ rfl
        · refine congrArg (fun x => some (Value.int x)) ?_
          (try clear hin9); (try clear cx); refine (if_neg cq8).trans ((if_neg cq33).trans ?_); first | (simp; done) | (simp [*]; done)
        · rfl
      by_cases sw51_16 : q = 16
      · subst sw51_16
        refine G.tableIn (pc := 51) cx dX10_count_51 (off := 164) (tgt := 215) (by decide) (by decide) (by decide) (by decide) ?_
        refine G.aload_n (pc := 215) cx dX10_count_215 rfl 0 rfl ?_
        refine G.getM (pc := 216) cx dX10_count_216 0 wm_fl_X10_7 (by decide) rfl ?_
        refine G.sipush (pc := 219) cx dX10_count_219 (v := 206) (by decide) ?_
        refine G.ialdV (pc := 222) cx dX10_count_222 mw_z (j := 206) rfl (by omega) (by decide) (cut_at (by omega)) ?_
        refine G.iret (pc := 223) cx rfl dX10_count_223 ?_ ?_ rfl
        · refine congrArg (fun x => some (Value.int x)) ?_
          (try clear hin9); (try clear cx); refine (if_neg cq8).trans ((if_neg cq33).trans ?_); first | (simp; done) | (simp [*]; done)
        · rfl
      by_cases sw51_17 : q = 17
      · subst sw51_17
        refine G.tableIn (pc := 51) cx dX10_count_51 (off := 173) (tgt := 224) (by decide) (by decide) (by decide) (by decide) ?_
        refine G.aload_n (pc := 224) cx dX10_count_224 rfl 0 rfl ?_
        refine G.getM (pc := 225) cx dX10_count_225 3 wm_fl_X10_33 (by decide) rfl ?_
        refine G.iret (pc := 228) cx rfl dX10_count_228 ?_ ?_ rfl
        · refine congrArg (fun x => some (Value.int x)) ?_
          (try clear hin9); (try clear cx); refine (if_neg cq8).trans ((if_neg cq33).trans ?_); first | (simp; done) | (simp [*]; done)
        · rfl
      by_cases sw51_18 : q = 18
      · subst sw51_18
        refine G.tableIn (pc := 51) cx dX10_count_51 (off := 178) (tgt := 229) (by decide) (by decide) (by decide) (by decide) ?_
        refine G.aload_n (pc := 229) cx dX10_count_229 rfl 0 rfl ?_
        refine G.getM (pc := 230) cx dX10_count_230 5 wm_fl_X10_190 (by decide) rfl ?_
        refine G.iret (pc := 233) cx rfl dX10_count_233 ?_ ?_ rfl
        · refine congrArg (fun x => some (Value.int x)) ?_
          (try clear hin9); (try clear cx); refine (if_neg cq8).trans ((if_neg cq33).trans ?_); first | (simp; done) | (simp [*]; done)
        · rfl
      refine G.tableDef (pc := 51) cx dX10_count_51 (tgt := 234) ?_ (by decide) ?_
      · have g0 := sw_ne sw51_0 (by decide : (0 : Int) = (0 : Int32).toInt); have g1 := sw_ne sw51_1 (by decide : (1 : Int) = (1 : Int32).toInt); have g2 := sw_ne sw51_2 (by decide : (2 : Int) = (2 : Int32).toInt); have g3 := sw_ne sw51_3 (by decide : (3 : Int) = (3 : Int32).toInt); have g4 := sw_ne sw51_4 (by decide : (4 : Int) = (4 : Int32).toInt); have g5 := sw_ne sw51_5 (by decide : (5 : Int) = (5 : Int32).toInt); have g6 := sw_ne sw51_6 (by decide : (6 : Int) = (6 : Int32).toInt); have g7 := sw_ne sw51_7 (by decide : (7 : Int) = (7 : Int32).toInt); have g8 := sw_ne sw51_15 (by decide : (15 : Int) = (15 : Int32).toInt); have g9 := sw_ne sw51_16 (by decide : (16 : Int) = (16 : Int32).toInt); have g10 := sw_ne sw51_17 (by decide : (17 : Int) = (17 : Int32).toInt); have g11 := sw_ne sw51_18 (by decide : (18 : Int) = (18 : Int32).toInt)
        rcases (show q.toInt < 0 ∨ 18 < q.toInt ∨ q.toInt = 8 ∨ q.toInt = 9 ∨ q.toInt = 10 ∨ q.toInt = 11 ∨ q.toInt = 12 ∨ q.toInt = 13 ∨ q.toInt = 14 by omega) with h | h | h | h | h | h | h | h | h
        · exact Or.inl h
        · exact Or.inr (Or.inl h)
        · exact Or.inr (Or.inr (by rw [h]; decide))
        · exact Or.inr (Or.inr (by rw [h]; decide))
        · exact Or.inr (Or.inr (by rw [h]; decide))
        · exact Or.inr (Or.inr (by rw [h]; decide))
        · exact Or.inr (Or.inr (by rw [h]; decide))
        · exact Or.inr (Or.inr (by rw [h]; decide))
        · exact Or.inr (Or.inr (by rw [h]; decide))
      refine G.ldc (pc := 234) cx dX10_count_234 (v := (-1000001)) wm_ct_X10_64 ?_
      refine G.iret (pc := 236) cx rfl dX10_count_236 ?_ ?_ rfl
      · refine congrArg (fun x => some (Value.int x)) ?_
        (try clear hin9); (try clear cx); refine (if_neg cq8).trans ((if_neg cq33).trans ?_); first | (simp; done) | (simp [*]; done)
      · rfl
    · skip
      obtain ⟨w, hw1, hw2, rfl⟩ := in_of2 (a := 20) (n := 22) (by decide) (by decide) cq33
      have tw : (nI w).toNatClampNeg = w := nI_clamp (by omega)
      refine G.aload_n (pc := 36) cx dX10_count_36 rfl 0 rfl ?_
      refine G.getM (pc := 37) cx dX10_count_37 0 wm_fl_X10_7 (by decide) rfl ?_
      refine G.sipush (pc := 40) cx dX10_count_40 (v := 203) (by decide) ?_
      refine G.iload_n (pc := 43) cx dX10_count_43 rfl 1 rfl ?_
      refine G.iaddN (pc := 44) cx dX10_count_44 203 w ?_
      refine G.bipush (pc := 45) cx dX10_count_45 (v := 20) (by decide) ?_
      refine G.isubN (pc := 47) cx dX10_count_47 (203 + w) 20 (by omega) ?_
      refine G.ialdV (pc := 48) cx dX10_count_48 mw_z (j := ((203 + w) - 20)) rfl (by omega) (by decide) (cut_at (by omega)) ?_
      refine G.iret (pc := 49) cx rfl dX10_count_49 ?_ ?_ rfl
      · refine congrArg (fun x => some (Value.int x)) ?_
        (try clear hin9); (try clear cx); refine (if_neg cq8).trans ((if_pos cq33).trans ?_); rw [tw]
      · rfl
  · skip
    obtain ⟨w, hw1, hw2, rfl⟩ := in_of2 (a := 8) (n := 14) (by decide) (by decide) cq8
    have tw : (nI w).toNatClampNeg = w := nI_clamp (by omega)
    refine G.aload_n (pc := 11) cx dX10_count_11 rfl 0 rfl ?_
    refine G.getM (pc := 12) cx dX10_count_12 0 wm_fl_X10_7 (by decide) rfl ?_
    refine G.sipush (pc := 15) cx dX10_count_15 (v := 195) (by decide) ?_
    refine G.iload_n (pc := 18) cx dX10_count_18 rfl 1 rfl ?_
    refine G.iaddN (pc := 19) cx dX10_count_19 195 w ?_
    refine G.bipush (pc := 20) cx dX10_count_20 (v := 8) (by decide) ?_
    refine G.isubN (pc := 22) cx dX10_count_22 (195 + w) 8 (by omega) ?_
    refine G.ialdV (pc := 23) cx dX10_count_23 mw_z (j := ((195 + w) - 8)) rfl (by omega) (by decide) (cut_at (by omega)) ?_
    refine G.iret (pc := 24) cx rfl dX10_count_24 ?_ ?_ rfl
    · refine congrArg (fun x => some (Value.int x)) ?_
      (try clear hin9); (try clear cx); refine (if_pos cq8).trans ?_; rw [tw]
    · rfl
set_option maxHeartbeats 4000000 in
set_option maxRecDepth 100000 in
theorem c_X10_type (l : Launch) (K : KT) (sz : Nat) (o : Nat) (z : Zt) (r : Rt) (V : VW) (x : Int32) (L : Nat) (hL : r.2.2.2.2 1 = nI L) (hL6 : L ≤ 60) : Ct l K yX10_type cX10_type 2 (some .int) 1 [.ref o, .int x] (mw K o z r V) sz (some (.int (tyAns x L))) (mw K o z (tyR r x L) V) sz 0 0 := by
  refine Ct.ofG (by decide) (Nat.le_of_ble_eq_true rfl) ?_
  intro p9 e9 s9 m9 a9 b9 t9 c9 cx hin9
  refine G.lv0 (lv2 := [(0, .ref o), (1, .int x)]) rfl ?_
  refine G.iload_n (pc := 0) cx dX10_type_0 rfl 1 rfl ?_
  refine G.bipush (pc := 1) cx dX10_type_1 (v := 32) (by decide) ?_
  refine G.bipush (pc := 3) cx dX10_type_3 (v := 126) (by decide) ?_
  refine G.callS0 (pc := 5) (rest := []) (st1 := [.int (b2 (32 ≤ x ∧ x ≤ 126))]) cx (c_X10_in l K sz x 32 126 (mw K o z r V)) ok_X10_in dX10_type_5 wm_ml_X10_25 rfl rfl (Nat.le_of_ble_eq_true rfl) ⟨Nat.le_of_ble_eq_true rfl, Nat.le_of_ble_eq_true rfl⟩ rfl ?_
  refine G.if_neB (pc := 8) cx dX10_type_8 (tgt := 14) (by decide) (fun cq8 => ?_) (fun cq8 => ?_)
  · skip
    refine G.aload_n (pc := 14) cx dX10_type_14 rfl 0 rfl ?_
    refine G.getM (pc := 15) cx dX10_type_15 5 wm_fl_X10_190 (by decide) (congrArg (fun x => some (Value.int x)) (hL)) ?_
    refine G.bipush (pc := 18) cx dX10_type_18 (v := 60) (by decide) ?_
    refine G.icmp_neN (pc := 20) cx L 60 (by omega) (by omega) dX10_type_20 (tgt := 26) (by decide) (fun cq20 => ?_) (fun cq20 => ?_)
    · skip
      refine G.aload_n (pc := 26) cx dX10_type_26 rfl 0 rfl ?_
      refine G.getM (pc := 27) cx dX10_type_27 4 wm_fl_X10_19 (by decide) rfl ?_
      refine G.aload_n (pc := 30) cx dX10_type_30 rfl 0 rfl ?_
      refine G.getM (pc := 31) cx dX10_type_31 5 wm_fl_X10_190 (by decide) (congrArg (fun x => some (Value.int x)) (hL)) ?_
      refine G.iload_n (pc := 34) cx dX10_type_34 rfl 1 rfl ?_
      refine G.iastC (pc := 35) cx dX10_type_35 mw_tx (j := L) rfl (by omega) (by decide) mwTx ?_
      refine G.aload_n (pc := 36) cx dX10_type_36 rfl 0 rfl ?_
      refine G.dup (pc := 37) cx dX10_type_37 rfl ?_
      refine G.getM (pc := 38) cx dX10_type_38 5 wm_fl_X10_190 (by decide) (congrArg (fun x => some (Value.int x)) (hL)) ?_
      refine G.iconst (pc := 41) cx dX10_type_41 (v := 1) (by decide) ?_
      refine G.iaddN (pc := 42) cx dX10_type_42 L 1 ?_
      refine G.putM (pc := 43) cx dX10_type_43 5 1 wm_fl_X10_190 (by decide) rfl ?_
      refine G.aload_n (pc := 46) cx dX10_type_46 rfl 0 rfl ?_
      refine G.getM (pc := 47) cx dX10_type_47 5 wm_fl_X10_190 (by decide) (congrArg (fun x => some (Value.int x)) (upd_s r.2.2.2.2 1 (nI (L + 1)))) ?_
      refine G.iret (pc := 50) cx rfl dX10_type_50 ?_ ?_ rfl
      · refine congrArg (fun x => some (Value.int x)) ?_
        (try clear hin9); (try clear cx); exact (if_neg (fun h => h cq8)).trans (if_neg cq20)
      · show _ = _
        (try clear hin9); (try clear cx); rw [show tyR r x L = _ from if_neg (fun h => h.elim (fun h => h cq8) cq20)]
    · skip
      refine G.ldc (pc := 23) cx dX10_type_23 (v := (-1000003)) wm_ct_X10_69 ?_
      refine G.iret (pc := 25) cx rfl dX10_type_25 ?_ ?_ rfl
      · refine congrArg (fun x => some (Value.int x)) ?_
        (try clear hin9); (try clear cx); exact (if_neg (fun h => h cq8)).trans (if_pos cq20)
      · show _ = _
        (try clear hin9); (try clear cx); rw [show tyR r x L = r from if_pos (Or.inr cq20)]
  · skip
    refine G.ldc (pc := 11) cx dX10_type_11 (v := (-1000001)) wm_ct_X10_64 ?_
    refine G.iret (pc := 13) cx rfl dX10_type_13 ?_ ?_ rfl
    · refine congrArg (fun x => some (Value.int x)) ?_
      (try clear hin9); (try clear cx); exact if_pos cq8
    · show _ = _
      (try clear hin9); (try clear cx); rw [show tyR r x L = r from if_pos (Or.inl cq8)]
set_option maxHeartbeats 4000000 in
set_option maxRecDepth 100000 in
theorem c_X10_clearText (l : Launch) (K : KT) (sz : Nat) (o : Nat) (z : Zt) (r : Rt) (V : VW) (L : Nat) (hL : r.2.2.2.2 1 = nI L) : Ct l K yX10_clearText cX10_clearText 2 (some .int) 0 [.ref o] (mw K o z r V) sz (some (.int (nI L))) (mw K o z (r.1, r.2.1, r.2.2.1, r.2.2.2.1, upd r.2.2.2.2 1 0) V) sz 0 0 := by
  refine Ct.ofG (by decide) (Nat.le_of_ble_eq_true rfl) ?_
  intro p9 e9 s9 m9 a9 b9 t9 c9 cx hin9
  refine G.lv0 (lv2 := [(0, .ref o)]) rfl ?_
  refine G.aload_n (pc := 0) cx dX10_clearText_0 rfl 0 rfl ?_
  refine G.getM (pc := 1) cx dX10_clearText_1 5 wm_fl_X10_190 (by decide) (congrArg (fun x => some (Value.int x)) (hL)) ?_
  refine G.istore_n (pc := 4) cx dX10_clearText_4 rfl (by decide) rfl ?_
  refine G.aload_n (pc := 5) cx dX10_clearText_5 rfl 1 rfl ?_
  refine G.iconst (pc := 6) cx dX10_clearText_6 (v := 0) (by decide) ?_
  refine G.putM (pc := 7) cx dX10_clearText_7 5 1 wm_fl_X10_190 (by decide) rfl ?_
  refine G.iload_n (pc := 10) cx dX10_clearText_10 rfl 0 rfl ?_
  refine G.iret (pc := 11) cx rfl dX10_clearText_11 ?_ ?_ rfl
  · rfl
  · rfl
set_option maxHeartbeats 4000000 in
set_option maxRecDepth 100000 in
theorem c_X10_at (l : Launch) (K : KT) (sz : Nat) (o : Nat) (z : Zt) (r : Rt) (V : VW) (u : Nat) (L : Nat) (hL : r.2.2.2.2 1 = nI L) (hL6 : L ≤ 60) (hu : u < 2 ^ 31) : Ct l K yX10_at cX10_at 2 (some .int) 0 [.ref o, .int (nI u)] (mw K o z r V) sz (some (.int (tAt r.2.2.1 L u))) (mw K o z r V) sz 0 0 := by
  refine Ct.ofG (by decide) (Nat.le_of_ble_eq_true rfl) ?_
  intro p9 e9 s9 m9 a9 b9 t9 c9 cx hin9
  refine G.lv0 (lv2 := [(0, .ref o), (1, .int (nI u))]) rfl ?_
  refine G.iload_n (pc := 0) cx dX10_at_0 rfl 1 rfl ?_
  refine G.aload_n (pc := 1) cx dX10_at_1 rfl 0 rfl ?_
  refine G.getM (pc := 2) cx dX10_at_2 5 wm_fl_X10_190 (by decide) (congrArg (fun x => some (Value.int x)) (hL)) ?_
  refine G.icmp_geN (pc := 5) cx u L (by omega) (by omega) dX10_at_5 (tgt := 17) (by decide) (fun cq5 => ?_) (fun cq5 => ?_)
  · skip
    refine G.iconst (pc := 17) cx dX10_at_17 (v := 0) (by decide) ?_
    refine G.iret (pc := 18) cx rfl dX10_at_18 ?_ ?_ rfl
    · refine congrArg (fun x => some (Value.int x)) ?_
      (try clear hin9); (try clear cx); first | exact if_pos cq5 | exact if_neg (by omega)
    · rfl
  · skip
    refine G.aload_n (pc := 8) cx dX10_at_8 rfl 0 rfl ?_
    refine G.getM (pc := 9) cx dX10_at_9 4 wm_fl_X10_19 (by decide) rfl ?_
    refine G.iload_n (pc := 12) cx dX10_at_12 rfl 1 rfl ?_
    refine G.ialdV (pc := 13) cx dX10_at_13 mw_tx (j := u) rfl (by omega) (by decide) (cut_at (by omega)) ?_
    refine G.goto (pc := 14) cx dX10_at_14 (tgt := 18) (by decide) ?_
    refine G.iret (pc := 18) cx rfl dX10_at_18 ?_ ?_ rfl
    · refine congrArg (fun x => some (Value.int x)) ?_
      (try clear hin9); (try clear cx); first | exact if_pos cq5 | exact if_neg (by omega)
    · rfl
set_option maxHeartbeats 4000000 in
set_option maxRecDepth 100000 in
theorem c_X10_numbers (l : Launch) (K : KT) (sz : Nat) (q : Int32) (V : VW)  : Ct l K yX10_numbers cX10_numbers 1 (some .int) 0 [.int q] V sz (some (.int (tNum q))) V sz 0 0 := by
  refine Ct.ofG (by decide) (Nat.le_of_ble_eq_true rfl) ?_
  intro p9 e9 s9 m9 a9 b9 t9 c9 cx hin9
  refine G.lv0 (lv2 := [(0, .int q)]) rfl ?_
  refine G.iload_n (pc := 0) cx dX10_numbers_0 rfl 0 rfl ?_
  by_cases sw1_97 : q = 97
  · subst sw1_97
    refine G.tableIn (pc := 1) cx dX10_numbers_1 (off := 107) (tgt := 108) (by decide) (by decide) (by decide) (by decide) ?_
    refine G.iconst (pc := 108) cx dX10_numbers_108 (v := 2) (by decide) ?_
    refine G.iret (pc := 109) cx rfl dX10_numbers_109 ?_ ?_ rfl
    · refine congrArg (fun x => some (Value.int x)) ?_
      (try clear hin9); (try clear cx); first | (simp [tNum]; done) | (simp [tNum, *]; done)
    · rfl
  by_cases sw1_98 : q = 98
  · subst sw1_98
    refine G.tableIn (pc := 1) cx dX10_numbers_1 (off := 109) (tgt := 110) (by decide) (by decide) (by decide) (by decide) ?_
    refine G.iconst (pc := 110) cx dX10_numbers_110 (v := 3) (by decide) ?_
    refine G.iret (pc := 111) cx rfl dX10_numbers_111 ?_ ?_ rfl
    · refine congrArg (fun x => some (Value.int x)) ?_
      (try clear hin9); (try clear cx); first | (simp [tNum]; done) | (simp [tNum, *]; done)
    · rfl
  by_cases sw1_100 : q = 100
  · subst sw1_100
    refine G.tableIn (pc := 1) cx dX10_numbers_1 (off := 105) (tgt := 106) (by decide) (by decide) (by decide) (by decide) ?_
    refine G.iconst (pc := 106) cx dX10_numbers_106 (v := 1) (by decide) ?_
    refine G.iret (pc := 107) cx rfl dX10_numbers_107 ?_ ?_ rfl
    · refine congrArg (fun x => some (Value.int x)) ?_
      (try clear hin9); (try clear cx); first | (simp [tNum]; done) | (simp [tNum, *]; done)
    · rfl
  by_cases sw1_101 : q = 101
  · subst sw1_101
    refine G.tableIn (pc := 1) cx dX10_numbers_1 (off := 103) (tgt := 104) (by decide) (by decide) (by decide) (by decide) ?_
    refine G.iconst (pc := 104) cx dX10_numbers_104 (v := 0) (by decide) ?_
    refine G.iret (pc := 105) cx rfl dX10_numbers_105 ?_ ?_ rfl
    · refine congrArg (fun x => some (Value.int x)) ?_
      (try clear hin9); (try clear cx); first | (simp [tNum]; done) | (simp [tNum, *]; done)
    · rfl
  by_cases sw1_102 : q = 102
  · subst sw1_102
    refine G.tableIn (pc := 1) cx dX10_numbers_1 (off := 107) (tgt := 108) (by decide) (by decide) (by decide) (by decide) ?_
    refine G.iconst (pc := 108) cx dX10_numbers_108 (v := 2) (by decide) ?_
    refine G.iret (pc := 109) cx rfl dX10_numbers_109 ?_ ?_ rfl
    · refine congrArg (fun x => some (Value.int x)) ?_
      (try clear hin9); (try clear cx); first | (simp [tNum]; done) | (simp [tNum, *]; done)
    · rfl
  by_cases sw1_104 : q = 104
  · subst sw1_104
    refine G.tableIn (pc := 1) cx dX10_numbers_1 (off := 107) (tgt := 108) (by decide) (by decide) (by decide) (by decide) ?_
    refine G.iconst (pc := 108) cx dX10_numbers_108 (v := 2) (by decide) ?_
    refine G.iret (pc := 109) cx rfl dX10_numbers_109 ?_ ?_ rfl
    · refine congrArg (fun x => some (Value.int x)) ?_
      (try clear hin9); (try clear cx); first | (simp [tNum]; done) | (simp [tNum, *]; done)
    · rfl
  by_cases sw1_108 : q = 108
  · subst sw1_108
    refine G.tableIn (pc := 1) cx dX10_numbers_1 (off := 105) (tgt := 106) (by decide) (by decide) (by decide) (by decide) ?_
    refine G.iconst (pc := 106) cx dX10_numbers_106 (v := 1) (by decide) ?_
    refine G.iret (pc := 107) cx rfl dX10_numbers_107 ?_ ?_ rfl
    · refine congrArg (fun x => some (Value.int x)) ?_
      (try clear hin9); (try clear cx); first | (simp [tNum]; done) | (simp [tNum, *]; done)
    · rfl
  by_cases sw1_111 : q = 111
  · subst sw1_111
    refine G.tableIn (pc := 1) cx dX10_numbers_1 (off := 103) (tgt := 104) (by decide) (by decide) (by decide) (by decide) ?_
    refine G.iconst (pc := 104) cx dX10_numbers_104 (v := 0) (by decide) ?_
    refine G.iret (pc := 105) cx rfl dX10_numbers_105 ?_ ?_ rfl
    · refine congrArg (fun x => some (Value.int x)) ?_
      (try clear hin9); (try clear cx); first | (simp [tNum]; done) | (simp [tNum, *]; done)
    · rfl
  by_cases sw1_112 : q = 112
  · subst sw1_112
    refine G.tableIn (pc := 1) cx dX10_numbers_1 (off := 103) (tgt := 104) (by decide) (by decide) (by decide) (by decide) ?_
    refine G.iconst (pc := 104) cx dX10_numbers_104 (v := 0) (by decide) ?_
    refine G.iret (pc := 105) cx rfl dX10_numbers_105 ?_ ?_ rfl
    · refine congrArg (fun x => some (Value.int x)) ?_
      (try clear hin9); (try clear cx); first | (simp [tNum]; done) | (simp [tNum, *]; done)
    · rfl
  by_cases sw1_114 : q = 114
  · subst sw1_114
    refine G.tableIn (pc := 1) cx dX10_numbers_1 (off := 107) (tgt := 108) (by decide) (by decide) (by decide) (by decide) ?_
    refine G.iconst (pc := 108) cx dX10_numbers_108 (v := 2) (by decide) ?_
    refine G.iret (pc := 109) cx rfl dX10_numbers_109 ?_ ?_ rfl
    · refine congrArg (fun x => some (Value.int x)) ?_
      (try clear hin9); (try clear cx); first | (simp [tNum]; done) | (simp [tNum, *]; done)
    · rfl
  by_cases sw1_118 : q = 118
  · subst sw1_118
    refine G.tableIn (pc := 1) cx dX10_numbers_1 (off := 109) (tgt := 110) (by decide) (by decide) (by decide) (by decide) ?_
    refine G.iconst (pc := 110) cx dX10_numbers_110 (v := 3) (by decide) ?_
    refine G.iret (pc := 111) cx rfl dX10_numbers_111 ?_ ?_ rfl
    · refine congrArg (fun x => some (Value.int x)) ?_
      (try clear hin9); (try clear cx); first | (simp [tNum]; done) | (simp [tNum, *]; done)
    · rfl
  refine G.tableDef (pc := 1) cx dX10_numbers_1 (tgt := 112) ?_ (by decide) ?_
  · have g0 := sw_ne sw1_97 (by decide : (97 : Int) = (97 : Int32).toInt); have g1 := sw_ne sw1_98 (by decide : (98 : Int) = (98 : Int32).toInt); have g2 := sw_ne sw1_100 (by decide : (100 : Int) = (100 : Int32).toInt); have g3 := sw_ne sw1_101 (by decide : (101 : Int) = (101 : Int32).toInt); have g4 := sw_ne sw1_102 (by decide : (102 : Int) = (102 : Int32).toInt); have g5 := sw_ne sw1_104 (by decide : (104 : Int) = (104 : Int32).toInt); have g6 := sw_ne sw1_108 (by decide : (108 : Int) = (108 : Int32).toInt); have g7 := sw_ne sw1_111 (by decide : (111 : Int) = (111 : Int32).toInt); have g8 := sw_ne sw1_112 (by decide : (112 : Int) = (112 : Int32).toInt); have g9 := sw_ne sw1_114 (by decide : (114 : Int) = (114 : Int32).toInt); have g10 := sw_ne sw1_118 (by decide : (118 : Int) = (118 : Int32).toInt)
    rcases (show q.toInt < 97 ∨ 118 < q.toInt ∨ q.toInt = 99 ∨ q.toInt = 103 ∨ q.toInt = 105 ∨ q.toInt = 106 ∨ q.toInt = 107 ∨ q.toInt = 109 ∨ q.toInt = 110 ∨ q.toInt = 113 ∨ q.toInt = 115 ∨ q.toInt = 116 ∨ q.toInt = 117 by omega) with h | h | h | h | h | h | h | h | h | h | h | h | h
    · exact Or.inl h
    · exact Or.inr (Or.inl h)
    · exact Or.inr (Or.inr (by rw [h]; decide))
    · exact Or.inr (Or.inr (by rw [h]; decide))
    · exact Or.inr (Or.inr (by rw [h]; decide))
    · exact Or.inr (Or.inr (by rw [h]; decide))
    · exact Or.inr (Or.inr (by rw [h]; decide))
    · exact Or.inr (Or.inr (by rw [h]; decide))
    · exact Or.inr (Or.inr (by rw [h]; decide))
    · exact Or.inr (Or.inr (by rw [h]; decide))
    · exact Or.inr (Or.inr (by rw [h]; decide))
    · exact Or.inr (Or.inr (by rw [h]; decide))
    · exact Or.inr (Or.inr (by rw [h]; decide))
  refine G.iconst (pc := 112) cx dX10_numbers_112 (v := (-1)) (by decide) ?_
  refine G.iret (pc := 113) cx rfl dX10_numbers_113 ?_ ?_ rfl
  · refine congrArg (fun x => some (Value.int x)) ?_
    (try clear hin9); (try clear cx); first | (simp [tNum]; done) | (simp [tNum, *]; done)
  · rfl
