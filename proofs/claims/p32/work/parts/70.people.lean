set_option maxHeartbeats 4000000 in
set_option maxRecDepth 100000 in
theorem c_L_people (l : Launch) (K : KT) (sz : Nat) (x : Nat) (s : Ot) (y : Zt) (V : VW) (u0 : Int32) (v0 : Int32) (B : Nat) (N : Nat) (S : Nat) (E : Nat) (D : Nat) (hI : INV B N y) (hS : SOK s) (hN : y 194 = nI N) (h16 : N ≤ 16) (hSe : y 191 = nI S) (hS1 : S ≤ 1) (hE : y 206 = nI E) (hE8 : E ≤ 8) (hD : y 192 = nI D) (hD9 : D ≤ 999) (hB : B < 1000000) : Cp l K yL_people cL_people 21 (some .boolean) 7 [.ref x, .int u0, .int v0, .ref (x + 194), .ref (x + 195), .ref (x + 196), .ref (x + 197), .ref (x + 198), .ref (x + 199)] (xwL K x y s y V) sz (PoL K x V B) := by
  refine Cp.ofG (by decide) (Nat.le_of_ble_eq_true rfl) ?_
  intro p9 e9 s9 m9 a9 b9 t9 c9 cx hin9
  refine G.lv0 (lv2 := [(0, .ref x), (1, .int u0), (2, .int v0), (3, .ref (x + 194)), (4, .ref (x + 195)), (5, .ref (x + 196)), (6, .ref (x + 197)), (7, .ref (x + 198)), (8, .ref (x + 199))]) rfl ?_
  refine G.iload_n (pc := 0) cx dL_people_0 rfl 1 rfl ?_
  refine G.bipush (pc := 1) cx dL_people_1 (v := 12) (by decide) ?_
  obtain ⟨r3, hr3, hl3⟩ := k_low l K sz (xwL K x y s y V) u0 (n := 12) (by omega) (by omega)
  refine G.callSg (pc := 3) (rest := []) (st1 := [.int (nI r3)]) cx hl3 ok_L_low dL_people_3 wm_ml_L_27 rfl rfl (Nat.le_of_ble_eq_true rfl) ⟨Nat.le_of_ble_eq_true rfl, Nat.le_of_ble_eq_true rfl⟩ ⟨Nat.le_of_ble_eq_true rfl, Nat.le_of_ble_eq_true rfl⟩ rfl ?_
  refine G.istore (pc := 6) cx dL_people_6 (by decide) rfl ?_
  refine G.ldc (pc := 8) cx dL_people_8 (v := (-1000002)) wm_ct_L_33 ?_
  refine G.istore (pc := 10) cx dL_people_10 (by decide) rfl ?_
  refine G.ldc (pc := 12) cx dL_people_12 (v := (-1000001)) wm_ct_L_34 ?_
  refine G.istore (pc := 14) cx dL_people_14 (by decide) rfl ?_
  have J28_1 : G K p9 l e9 (rmL 7 0 0) s9 m9 a9 b9 t9 c9 (MQ b9 (QCp K (PoL K x V B) sz) a9 s9 0 0 (kA K)) 21 (xwL K x y s y V) sz 0 0 28 [(0, .ref x), (1, .int u0), (2, .int v0), (3, .ref (x + 194)), (4, .ref (x + 195)), (5, .ref (x + 196)), (6, .ref (x + 197)), (7, .ref (x + 198)), (8, .ref (x + 199)), (9, .int (nI r3)), (10, .int (-1000002)), (11, .int (-1000001))] [] := by
    refine G.iload_n (pc := 28) cx dL_people_28 rfl 2 rfl ?_
    refine G.iconst (pc := 29) cx dL_people_29 (v := 4) (by decide) ?_
    obtain ⟨r30, hr30, hl30⟩ := k_low l K sz (xwL K x y s y V) v0 (n := 4) (by omega) (by omega)
    refine G.callSg (pc := 30) (rest := []) (st1 := [.int (nI r30)]) cx hl30 ok_L_low dL_people_30 wm_ml_L_27 rfl rfl (Nat.le_of_ble_eq_true rfl) ⟨Nat.le_of_ble_eq_true rfl, Nat.le_of_ble_eq_true rfl⟩ ⟨Nat.le_of_ble_eq_true rfl, Nat.le_of_ble_eq_true rfl⟩ rfl ?_
    refine G.istore (pc := 33) cx dL_people_33 (by decide) rfl ?_
    refine G.iload_n (pc := 35) cx dL_people_35 rfl 3 rfl ?_
    refine G.iconst (pc := 36) cx dL_people_36 (v := 2) (by decide) ?_
    refine G.ishr (pc := 37) cx dL_people_37 ?_
    refine G.iconst (pc := 38) cx dL_people_38 (v := 1) (by decide) ?_
    refine G.iand (pc := 39) cx dL_people_39 ?_
    obtain ⟨w40, hw40, ew40⟩ := pk_andE (v0 >>> (2 &&& 31)) (m := 1) 1 (by decide)
    refine G.castS (st' := [.int (nI w40)]) (by rw [ew40]) ?_
    refine G.istore (pc := 40) cx dL_people_40 (by decide) rfl ?_
    have J57_2 : (S = 1 ∨ N = 16) → G K p9 l e9 (rmL 7 0 0) s9 m9 a9 b9 t9 c9 (MQ b9 (QCp K (PoL K x V B) sz) a9 s9 0 0 (kA K)) 21 (xwL K x y s y V) sz 0 0 57 [(0, .ref x), (1, .int u0), (2, .int v0), (3, .ref (x + 194)), (4, .ref (x + 195)), (5, .ref (x + 196)), (6, .ref (x + 197)), (7, .ref (x + 198)), (8, .ref (x + 199)), (9, .int (nI r3)), (10, .int (-1000002)), (11, .int (-1000001)), (12, .int (nI r30)), (13, .int (nI w40))] [] := by
      intro hor57
      refine G.aload_n (pc := 57) cx dL_people_57 rfl 0 rfl ?_
      refine G.iload (pc := 58) cx dL_people_58 12 rfl ?_
      refine G.iload (pc := 60) cx dL_people_60 13 rfl ?_
      obtain ⟨s62, hs62, hc62⟩ := k_no (c := if S = 1 then -1000002 else -1000003) (k_sign (l := l) (K := K) (sz := sz) (x := x) (y := y) (V := V) hI hS (nI r30) (nI w40)) (by exact no_sign hI hSe hS1 (by omega) (by omega) hor57) (by first | decide | (split <;> decide))
      refine G.callVg (pc := 62) (rest := []) (st1 := [.int (if S = 1 then -1000002 else -1000003)]) cx hc62 ok_X9_sign dL_people_62 wm_ml_L_35 rfl xw_o rfl (Nat.le_of_ble_eq_true rfl) ⟨Nat.le_of_ble_eq_true rfl, Nat.le_of_ble_eq_true rfl⟩ ⟨Nat.le_of_ble_eq_true rfl, Nat.le_of_ble_eq_true rfl⟩ rfl ?_
      refine G.aload_n (pc := 65) cx dL_people_65 rfl 3 rfl ?_
      refine G.iconst (pc := 66) cx dL_people_66 (v := 1) (by decide) ?_
      refine G.ialdV (pc := 67) cx dL_people_67 xl_g (j := 1) rfl (by omega) (by decide) ((xr_g (n := 191) (by omega) (by omega)).trans (hSe)) ?_
      refine G.iconst (pc := 68) cx dL_people_68 (v := 1) (by decide) ?_
      refine G.icmp_neN (pc := 69) cx S 1 (by omega) (by omega) dL_people_69 (tgt := 77) (by decide) (fun cq69 => ?_) (fun cq69 => ?_)
      · skip
        refine G.ldc (pc := 77) cx dL_people_77 (v := (-1000003)) wm_ct_L_38 ?_
        refine G.icmp_ne (pc := 79) cx dL_people_79 (tgt := 108) (by decide) (fun h9 => absurd (by first | exact if_pos cq69 | exact if_neg cq69) h9) (fun _ => ?_)
        refine G.aload_n (pc := 82) cx dL_people_82 rfl 0 rfl ?_
        refine G.iconst (pc := 83) cx dL_people_83 (v := 4) (by decide) ?_
        refine G.iconst (pc := 84) cx dL_people_84 (v := 0) (by decide) ?_
        obtain ⟨s85, hs85, hc85⟩ := k_no (c := -1000001) (k_sign (l := l) (K := K) (sz := sz) (x := x) (y := y) (V := V) hI hs62 4 0) (by exact bad_sign4 y) (by first | decide | (split <;> decide))
        refine G.callVg (pc := 85) (rest := []) (st1 := [.int (-1000001)]) cx hc85 ok_X9_sign dL_people_85 wm_ml_L_35 rfl xw_o rfl (Nat.le_of_ble_eq_true rfl) ⟨Nat.le_of_ble_eq_true rfl, Nat.le_of_ble_eq_true rfl⟩ ⟨Nat.le_of_ble_eq_true rfl, Nat.le_of_ble_eq_true rfl⟩ rfl ?_
        refine G.iload (pc := 88) cx dL_people_88 11 rfl ?_
        refine G.icmp_ne (pc := 90) cx dL_people_90 (tgt := 108) (by decide) (fun h9 => absurd rfl h9) (fun _ => ?_)
        refine G.aload_n (pc := 93) cx dL_people_93 rfl 0 rfl ?_
        refine G.iconst (pc := 94) cx dL_people_94 (v := 0) (by decide) ?_
        refine G.iconst (pc := 95) cx dL_people_95 (v := 2) (by decide) ?_
        obtain ⟨s96, hs96, hc96⟩ := k_no (c := -1000001) (k_sign (l := l) (K := K) (sz := sz) (x := x) (y := y) (V := V) hI hs85 0 2) (by exact bad_sign2 y) (by first | decide | (split <;> decide))
        refine G.callVg (pc := 96) (rest := []) (st1 := [.int (-1000001)]) cx hc96 ok_X9_sign dL_people_96 wm_ml_L_35 rfl xw_o rfl (Nat.le_of_ble_eq_true rfl) ⟨Nat.le_of_ble_eq_true rfl, Nat.le_of_ble_eq_true rfl⟩ ⟨Nat.le_of_ble_eq_true rfl, Nat.le_of_ble_eq_true rfl⟩ rfl ?_
        refine G.iload (pc := 99) cx dL_people_99 11 rfl ?_
        refine G.icmp_ne (pc := 101) cx dL_people_101 (tgt := 108) (by decide) (fun h9 => absurd rfl h9) (fun _ => ?_)
        refine G.iconst (pc := 104) cx dL_people_104 (v := 1) (by decide) ?_
        refine G.goto (pc := 105) cx dL_people_105 (tgt := 109) (by decide) ?_
        refine G.zretP (pc := 109) cx rfl dL_people_109 rfl ?_
        exact ⟨rfl, _, _, _, rfl, hs96, hI.B (Nat.le_succ B)⟩
      · skip
        refine G.iload (pc := 72) cx dL_people_72 10 rfl ?_
        refine G.goto (pc := 74) cx dL_people_74 (tgt := 79) (by decide) ?_
        refine G.icmp_ne (pc := 79) cx dL_people_79 (tgt := 108) (by decide) (fun h9 => absurd (by first | exact if_pos cq69 | exact if_neg cq69) h9) (fun _ => ?_)
        refine G.aload_n (pc := 82) cx dL_people_82 rfl 0 rfl ?_
        refine G.iconst (pc := 83) cx dL_people_83 (v := 4) (by decide) ?_
        refine G.iconst (pc := 84) cx dL_people_84 (v := 0) (by decide) ?_
        obtain ⟨s85, hs85, hc85⟩ := k_no (c := -1000001) (k_sign (l := l) (K := K) (sz := sz) (x := x) (y := y) (V := V) hI hs62 4 0) (by exact bad_sign4 y) (by first | decide | (split <;> decide))
        refine G.callVg (pc := 85) (rest := []) (st1 := [.int (-1000001)]) cx hc85 ok_X9_sign dL_people_85 wm_ml_L_35 rfl xw_o rfl (Nat.le_of_ble_eq_true rfl) ⟨Nat.le_of_ble_eq_true rfl, Nat.le_of_ble_eq_true rfl⟩ ⟨Nat.le_of_ble_eq_true rfl, Nat.le_of_ble_eq_true rfl⟩ rfl ?_
        refine G.iload (pc := 88) cx dL_people_88 11 rfl ?_
        refine G.icmp_ne (pc := 90) cx dL_people_90 (tgt := 108) (by decide) (fun h9 => absurd rfl h9) (fun _ => ?_)
        refine G.aload_n (pc := 93) cx dL_people_93 rfl 0 rfl ?_
        refine G.iconst (pc := 94) cx dL_people_94 (v := 0) (by decide) ?_
        refine G.iconst (pc := 95) cx dL_people_95 (v := 2) (by decide) ?_
        obtain ⟨s96, hs96, hc96⟩ := k_no (c := -1000001) (k_sign (l := l) (K := K) (sz := sz) (x := x) (y := y) (V := V) hI hs85 0 2) (by exact bad_sign2 y) (by first | decide | (split <;> decide))
        refine G.callVg (pc := 96) (rest := []) (st1 := [.int (-1000001)]) cx hc96 ok_X9_sign dL_people_96 wm_ml_L_35 rfl xw_o rfl (Nat.le_of_ble_eq_true rfl) ⟨Nat.le_of_ble_eq_true rfl, Nat.le_of_ble_eq_true rfl⟩ ⟨Nat.le_of_ble_eq_true rfl, Nat.le_of_ble_eq_true rfl⟩ rfl ?_
        refine G.iload (pc := 99) cx dL_people_99 11 rfl ?_
        refine G.icmp_ne (pc := 101) cx dL_people_101 (tgt := 108) (by decide) (fun h9 => absurd rfl h9) (fun _ => ?_)
        refine G.iconst (pc := 104) cx dL_people_104 (v := 1) (by decide) ?_
        refine G.goto (pc := 105) cx dL_people_105 (tgt := 109) (by decide) ?_
        refine G.zretP (pc := 109) cx rfl dL_people_109 rfl ?_
        exact ⟨rfl, _, _, _, rfl, hs96, hI.B (Nat.le_succ B)⟩
    refine G.aload_n (pc := 42) cx dL_people_42 rfl 5 rfl ?_
    refine G.iconst (pc := 43) cx dL_people_43 (v := 1) (by decide) ?_
    refine G.ialdV (pc := 44) cx dL_people_44 xl_g (j := 1) rfl (by omega) (by decide) ((xr_g (n := 191) (by omega) (by omega)).trans (hSe)) ?_
    refine G.iconst (pc := 45) cx dL_people_45 (v := 1) (by decide) ?_
    refine G.icmp_eqN (pc := 46) cx S 1 (by omega) (by omega) dL_people_46 (tgt := 57) (by decide) (fun cq46 => ?_) (fun cq46 => ?_)
    · skip
      refine G.castL (lv' := [(0, .ref x), (1, .int u0), (2, .int v0), (3, .ref (x + 194)), (4, .ref (x + 195)), (5, .ref (x + 196)), (6, .ref (x + 197)), (7, .ref (x + 198)), (8, .ref (x + 199)), (9, .int (nI r3)), (10, .int (-1000002)), (11, .int (-1000001)), (12, .int (nI r30)), (13, .int (nI w40))]) [2, 3, 4, 5, 6, 7, 8, 9, 10, 11, 12, 13, 1, 0] rfl ?_
      exact J57_2 (by first | exact Or.inl cq46 | exact Or.inr cq54)
    · skip
      refine G.aload_n (pc := 49) cx dL_people_49 rfl 5 rfl ?_
      refine G.iconst (pc := 50) cx dL_people_50 (v := 4) (by decide) ?_
      refine G.ialdV (pc := 51) cx dL_people_51 xl_g (j := 4) rfl (by omega) (by decide) ((xr_g (n := 194) (by omega) (by omega)).trans (hN)) ?_
      refine G.bipush (pc := 52) cx dL_people_52 (v := 16) (by decide) ?_
      refine G.icmp_neN (pc := 54) cx N 16 (by omega) (by omega) dL_people_54 (tgt := 110) (by decide) (fun cq54 => ?_) (fun cq54 => ?_)
      · skip
        refine G.aload_n (pc := 110) cx dL_people_110 rfl 5 rfl ?_
        refine G.iconst (pc := 111) cx dL_people_111 (v := 4) (by decide) ?_
        refine G.ialdV (pc := 112) cx dL_people_112 xl_g (j := 4) rfl (by omega) (by decide) ((xr_g (n := 194) (by omega) (by omega)).trans (hN)) ?_
        refine G.istore (pc := 113) cx dL_people_113 (by decide) rfl ?_
        refine G.aload (pc := 115) cx dL_people_115 7 rfl ?_
        refine G.iconst (pc := 117) cx dL_people_117 (v := 3) (by decide) ?_
        refine G.iload (pc := 118) cx dL_people_118 0 rfl ?_
        refine G.imulN (pc := 120) cx dL_people_120 3 N ?_
        refine G.iload (pc := 121) cx dL_people_121 2 rfl ?_
        refine G.iastC (pc := 123) cx dL_people_123 xl_a (j := (3 * N)) rfl (by omega) (by decide) (xs_a (n := 10 * N) (by omega) (by omega)) ?_
        refine G.aload (pc := 124) cx dL_people_124 7 rfl ?_
        refine G.iconst (pc := 126) cx dL_people_126 (v := 3) (by decide) ?_
        refine G.iload (pc := 127) cx dL_people_127 0 rfl ?_
        refine G.imulN (pc := 129) cx dL_people_129 3 N ?_
        refine G.iconst (pc := 130) cx dL_people_130 (v := 1) (by decide) ?_
        refine G.iaddN (pc := 131) cx dL_people_131 (3 * N) 1 ?_
        refine G.iload (pc := 132) cx dL_people_132 1 rfl ?_
        refine G.iastC (pc := 134) cx dL_people_134 xl_a (j := ((3 * N) + 1)) rfl (by omega) (by decide) (xs_a (n := 10 * N + 1) (by omega) (by omega)) ?_
        refine G.aload (pc := 135) cx dL_people_135 7 rfl ?_
        refine G.iconst (pc := 137) cx dL_people_137 (v := 3) (by decide) ?_
        refine G.iload (pc := 138) cx dL_people_138 0 rfl ?_
        refine G.imulN (pc := 140) cx dL_people_140 3 N ?_
        refine G.iconst (pc := 141) cx dL_people_141 (v := 2) (by decide) ?_
        refine G.iaddN (pc := 142) cx dL_people_142 (3 * N) 2 ?_
        refine G.iconst (pc := 143) cx dL_people_143 (v := 0) (by decide) ?_
        refine G.iastC (pc := 144) cx dL_people_144 xl_a (j := ((3 * N) + 2)) rfl (by omega) (by decide) (xs_a (n := 10 * N + 2) (by omega) (by omega)) ?_
        refine G.aload (pc := 145) cx dL_people_145 8 rfl ?_
        refine G.iconst (pc := 147) cx dL_people_147 (v := 4) (by decide) ?_
        refine G.iload (pc := 148) cx dL_people_148 0 rfl ?_
        refine G.imulN (pc := 150) cx dL_people_150 4 N ?_
        refine G.iconst (pc := 151) cx dL_people_151 (v := 3) (by decide) ?_
        refine G.iaddN (pc := 152) cx dL_people_152 (4 * N) 3 ?_
        refine G.iconst (pc := 153) cx dL_people_153 (v := 0) (by decide) ?_
        refine G.iastC (pc := 154) cx dL_people_154 xl_b (j := ((4 * N) + 3)) rfl (by omega) (by decide) (xs_b (n := 10 * N + 9) (by omega) (by omega)) ?_
        refine G.aload (pc := 155) cx dL_people_155 8 rfl ?_
        refine G.aload (pc := 157) cx dL_people_157 9 rfl ?_
        refine G.iload (pc := 159) cx dL_people_159 0 rfl ?_
        refine G.iconst (pc := 161) cx dL_people_161 (v := 0) (by decide) ?_
        refine G.callSg (pc := 162) (rest := []) (st1 := []) cx (c_L_clear l K sz x y s (upd (upd (upd (upd y (10 * N) (nI r30)) (10 * N + 1) (nI w40)) (10 * N + 2) 0) (10 * N + 9) 0) V N 0 (by omega)) ok_L_clear dL_people_162 wm_ml_L_39 rfl rfl (Nat.le_of_ble_eq_true rfl) ⟨Nat.le_of_ble_eq_true rfl, Nat.le_of_ble_eq_true rfl⟩ ⟨Nat.le_of_ble_eq_true rfl, Nat.le_of_ble_eq_true rfl⟩ rfl ?_
        refine G.aload_n (pc := 165) cx dL_people_165 rfl 6 rfl ?_
        refine G.iconst (pc := 166) cx dL_people_166 (v := 4) (by decide) ?_
        refine G.dup2 (pc := 167) cx dL_people_167 rfl rfl ?_
        refine G.ialdV (pc := 168) cx dL_people_168 xl_g (j := 4) rfl (by omega) (by decide) ((xr_g (n := 194) (by omega) (by omega)).trans ((sg_194 hN (by omega) _ _))) ?_
        refine G.iconst (pc := 169) cx dL_people_169 (v := 1) (by decide) ?_
        refine G.iaddN (pc := 170) cx dL_people_170 N 1 ?_
        refine G.iastC (pc := 171) cx dL_people_171 xl_g (j := 4) rfl (by omega) (by decide) (xs_g (n := 194) (by omega) (by omega)) ?_
        refine G.aload_n (pc := 172) cx dL_people_172 rfl 3 rfl ?_
        refine G.iload (pc := 173) cx dL_people_173 2 rfl ?_
        refine G.iload (pc := 175) cx dL_people_175 1 rfl ?_
        obtain ⟨s177, hs177, hc177, M177, hi177⟩ := k_yes (v := nI N) (D2 := upd (upd (zClear (upd (upd (upd (upd y (10 * N) (nI r30)) (10 * N + 1) (nI w40)) (10 * N + 2) 0) (10 * N + 9) 0) N) (10 * N + 8) 0) 194 (nI (N + 1))) (k_sign (l := l) (K := K) (sz := sz) (x := x) (y := (upd (upd (zClear (upd (upd (upd (upd y (10 * N) (nI r30)) (10 * N + 1) (nI w40)) (10 * N + 2) 0) (10 * N + 9) 0) N) (10 * N + 8) 0) 194 (nI (N + 1)))) (V := V) hI hS (nI r30) (nI w40)) (by exact yes_sign hI hSe hS1 (by omega) (by omega) cq46 cq54) (by rfl) (by exact do_sign y (by omega) _ _)
        refine G.callVg (pc := 177) (rest := []) (st1 := [.int (nI N)]) cx hc177 ok_X9_sign dL_people_177 wm_ml_L_35 rfl xw_o rfl (Nat.le_of_ble_eq_true rfl) ⟨Nat.le_of_ble_eq_true rfl, Nat.le_of_ble_eq_true rfl⟩ ⟨Nat.le_of_ble_eq_true rfl, Nat.le_of_ble_eq_true rfl⟩ rfl ?_
        refine G.iload (pc := 180) cx dL_people_180 0 rfl ?_
        refine G.icmp_ne (pc := 182) cx dL_people_182 (tgt := 189) (by decide) (fun h9 => absurd rfl h9) (fun _ => ?_)
        refine G.iconst (pc := 185) cx dL_people_185 (v := 1) (by decide) ?_
        refine G.goto (pc := 186) cx dL_people_186 (tgt := 190) (by decide) ?_
        refine G.zretP (pc := 190) cx rfl dL_people_190 rfl ?_
        exact ⟨rfl, _, _, _, rfl, hs177, hi177⟩
      · skip
        refine G.castL (lv' := [(0, .ref x), (1, .int u0), (2, .int v0), (3, .ref (x + 194)), (4, .ref (x + 195)), (5, .ref (x + 196)), (6, .ref (x + 197)), (7, .ref (x + 198)), (8, .ref (x + 199)), (9, .int (nI r3)), (10, .int (-1000002)), (11, .int (-1000001)), (12, .int (nI r30)), (13, .int (nI w40))]) [2, 3, 4, 5, 6, 7, 8, 9, 10, 11, 12, 13, 1, 0] rfl ?_
        exact J57_2 (by first | exact Or.inl cq46 | exact Or.inr cq54)
  refine G.iload (pc := 16) cx dL_people_16 2 rfl ?_
  refine G.iconst (pc := 18) cx dL_people_18 (v := 2) (by decide) ?_
  refine G.icmp_ltN (pc := 19) cx r3 2 (by omega) (by omega) dL_people_19 (tgt := 28) (by decide) (fun cq19 => ?_) (fun cq19 => ?_)
  · skip
    have nq19 := Nat.not_le.mpr cq19
    refine G.castL (lv' := [(0, .ref x), (1, .int u0), (2, .int v0), (3, .ref (x + 194)), (4, .ref (x + 195)), (5, .ref (x + 196)), (6, .ref (x + 197)), (7, .ref (x + 198)), (8, .ref (x + 199)), (9, .int (nI r3)), (10, .int (-1000002)), (11, .int (-1000001))]) [3, 4, 5, 6, 7, 8, 9, 10, 11, 2, 1, 0] rfl ?_
    exact J28_1
  · skip
    have nq19 := Nat.not_lt.mpr cq19
    refine G.aload_n (pc := 22) cx dL_people_22 rfl 6 rfl ?_
    refine G.iconst (pc := 23) cx dL_people_23 (v := 4) (by decide) ?_
    refine G.ialdV (pc := 24) cx dL_people_24 xl_g (j := 4) rfl (by omega) (by decide) ((xr_g (n := 194) (by omega) (by omega)).trans (hN)) ?_
    refine G.if_neN (pc := 25) cx N (by omega) dL_people_25 (tgt := 191) (by decide) (fun cq25 => ?_) (fun cq25 => ?_)
    · skip
      refine G.iload_n (pc := 191) cx dL_people_191 rfl 5 rfl ?_
      refine G.aload_n (pc := 192) cx dL_people_192 rfl 6 rfl ?_
      refine G.iconst (pc := 193) cx dL_people_193 (v := 4) (by decide) ?_
      refine G.ialdV (pc := 194) cx dL_people_194 xl_g (j := 4) rfl (by omega) (by decide) ((xr_g (n := 194) (by omega) (by omega)).trans (hN)) ?_
      obtain ⟨r195, hr195, hl195⟩ := k_low l K sz (xwL K x y s y V) v0 (n := N) (by omega) (by omega)
      refine G.callSg (pc := 195) (rest := []) (st1 := [.int (nI r195)]) cx hl195 ok_L_low dL_people_195 wm_ml_L_27 rfl rfl (Nat.le_of_ble_eq_true rfl) ⟨Nat.le_of_ble_eq_true rfl, Nat.le_of_ble_eq_true rfl⟩ ⟨Nat.le_of_ble_eq_true rfl, Nat.le_of_ble_eq_true rfl⟩ rfl ?_
      refine G.istore (pc := 198) cx dL_people_198 (by decide) rfl ?_
      refine G.aload (pc := 200) cx dL_people_200 8 rfl ?_
      refine G.iconst (pc := 202) cx dL_people_202 (v := 3) (by decide) ?_
      refine G.iload (pc := 203) cx dL_people_203 0 rfl ?_
      refine G.imulN (pc := 205) cx dL_people_205 3 r195 ?_
      refine G.iconst (pc := 206) cx dL_people_206 (v := 2) (by decide) ?_
      refine G.iaddN (pc := 207) cx dL_people_207 (3 * r195) 2 ?_
      refine G.ialdV (pc := 208) cx dL_people_208 xl_a (j := ((3 * r195) + 2)) rfl (by omega) (by decide) (xr_a (n := 10 * r195 + 2) (by omega) (by omega)) ?_
      refine G.istore (pc := 209) cx dL_people_209 (by decide) rfl ?_
      refine G.aload (pc := 211) cx dL_people_211 9 rfl ?_
      refine G.aload (pc := 213) cx dL_people_213 10 rfl ?_
      refine G.aload (pc := 215) cx dL_people_215 11 rfl ?_
      refine G.iload (pc := 217) cx dL_people_217 1 rfl ?_
      refine G.callSg (pc := 219) (rest := []) (st1 := [.int (zBal y r195)]) cx (c_L_balance l K sz x y s y V r195 (by omega)) ok_L_balance dL_people_219 wm_ml_L_23 rfl rfl (Nat.le_of_ble_eq_true rfl) ⟨Nat.le_of_ble_eq_true rfl, Nat.le_of_ble_eq_true rfl⟩ ⟨Nat.le_of_ble_eq_true rfl, Nat.le_of_ble_eq_true rfl⟩ rfl ?_
      refine G.istore (pc := 222) cx dL_people_222 (by decide) rfl ?_
      refine G.iconst (pc := 224) cx dL_people_224 (v := 1) (by decide) ?_
      refine G.iload_n (pc := 225) cx dL_people_225 rfl 8 rfl ?_
      refine G.bipush (pc := 226) cx dL_people_226 (v := 6) (by decide) ?_
      refine G.ishr (pc := 228) cx dL_people_228 ?_
      refine G.iload_n (pc := 229) cx dL_people_229 rfl 8 rfl ?_
      refine G.bipush (pc := 230) cx dL_people_230 (v := 16) (by decide) ?_
      refine G.ishr (pc := 232) cx dL_people_232 ?_
      refine G.iconst (pc := 233) cx dL_people_233 (v := 3) (by decide) ?_
      refine G.iand (pc := 234) cx dL_people_234 ?_
      obtain ⟨mx246, hm246⟩ : ∃ q : Nat, q = (if ¬ ((v0 >>> (16 &&& 31)) &&& 3) = 0 then 40 else 999) ∧ 0 < q ∧ q ≤ 999 := ⟨_, rfl, by split <;> omega, by split <;> omega⟩
      have hma246 := hm246.2.1
      have hmb246 := hm246.2.2
      have J246_3 : G K p9 l e9 (rmL 7 0 0) s9 m9 a9 b9 t9 c9 (MQ b9 (QCp K (PoL K x V B) sz) a9 s9 0 0 (kA K)) 21 (xwL K x y s y V) sz 0 0 246 [(0, .ref x), (1, .int u0), (2, .int v0), (3, .ref (x + 194)), (4, .ref (x + 195)), (5, .ref (x + 196)), (6, .ref (x + 197)), (7, .ref (x + 198)), (8, .ref (x + 199)), (9, .int (nI r3)), (10, .int (-1000002)), (11, .int (-1000001)), (12, .int (nI r195)), (13, .int (y (10 * r195 + 2))), (14, .int (zBal y r195))] [.int (nI mx246), .int (v0 >>> (6 &&& 31)), .int 1] := by
        obtain ⟨r246, hr246, hl246⟩ := k_low l K sz (xwL K x y s y V) (v0 >>> (6 &&& 31)) (n := mx246) (by omega) (by omega)
        refine G.callSg (pc := 246) (rest := [.int 1]) (st1 := [.int (nI r246), .int 1]) cx hl246 ok_L_low dL_people_246 wm_ml_L_27 rfl rfl (Nat.le_of_ble_eq_true rfl) ⟨Nat.le_of_ble_eq_true rfl, Nat.le_of_ble_eq_true rfl⟩ ⟨Nat.le_of_ble_eq_true rfl, Nat.le_of_ble_eq_true rfl⟩ rfl ?_
        refine G.iaddN (pc := 249) cx dL_people_249 1 r246 ?_
        refine G.istore (pc := 250) cx dL_people_250 (by decide) rfl ?_
        refine G.iload (pc := 252) cx dL_people_252 10 rfl ?_
        refine G.iconst (pc := 254) cx dL_people_254 (v := 5) (by decide) ?_
        refine G.icmp_geN (pc := 255) cx r3 5 (by omega) (by omega) dL_people_255 (tgt := 508) (by decide) (fun cq255 => ?_) (fun cq255 => ?_)
        · skip
          have nq255 := Nat.not_lt.mpr cq255
          refine G.iload (pc := 508) cx dL_people_508 10 rfl ?_
          refine G.iconst (pc := 510) cx dL_people_510 (v := 5) (by decide) ?_
          refine G.icmp_neN (pc := 511) cx r3 5 (by omega) (by omega) dL_people_511 (tgt := 636) (by decide) (fun cq511 => ?_) (fun cq511 => ?_)
          · skip
            refine G.iload (pc := 636) cx dL_people_636 10 rfl ?_
            refine G.bipush (pc := 638) cx dL_people_638 (v := 6) (by decide) ?_
            refine G.icmp_neN (pc := 640) cx r3 6 (by omega) (by omega) dL_people_640 (tgt := 731) (by decide) (fun cq640 => ?_) (fun cq640 => ?_)
            · skip
              refine G.iload (pc := 731) cx dL_people_731 10 rfl ?_
              refine G.bipush (pc := 733) cx dL_people_733 (v := 7) (by decide) ?_
              refine G.icmp_neN (pc := 735) cx r3 7 (by omega) (by omega) dL_people_735 (tgt := 1053) (by decide) (fun cq735 => ?_) (fun cq735 => ?_)
              · skip
                refine G.iload (pc := 1053) cx dL_people_1053 10 rfl ?_
                refine G.bipush (pc := 1055) cx dL_people_1055 (v := 8) (by decide) ?_
                refine G.icmp_neN (pc := 1057) cx r3 8 (by omega) (by omega) dL_people_1057 (tgt := 1156) (by decide) (fun cq1057 => ?_) (fun cq1057 => ?_)
                · skip
                  refine G.iload_n (pc := 1156) cx dL_people_1156 rfl 3 rfl ?_
                  refine G.bipush (pc := 1157) cx dL_people_1157 (v := 6) (by decide) ?_
                  refine G.ishr (pc := 1159) cx dL_people_1159 ?_
                  refine G.iload_n (pc := 1160) cx dL_people_1160 rfl 3 rfl ?_
                  refine G.bipush (pc := 1161) cx dL_people_1161 (v := 16) (by decide) ?_
                  refine G.ishr (pc := 1163) cx dL_people_1163 ?_
                  refine G.iconst (pc := 1164) cx dL_people_1164 (v := 1) (by decide) ?_
                  refine G.iand (pc := 1165) cx dL_people_1165 ?_
                  obtain ⟨mx1175, hm1175⟩ : ∃ q : Nat, q = (if ¬ ((v0 >>> (16 &&& 31)) &&& 1) = 0 then 100 else 3) ∧ 0 < q ∧ q ≤ 100 := ⟨_, rfl, by split <;> omega, by split <;> omega⟩
                  have hma1175 := hm1175.2.1
                  have hmb1175 := hm1175.2.2
                  have J1175_4 : G K p9 l e9 (rmL 7 0 0) s9 m9 a9 b9 t9 c9 (MQ b9 (QCp K (PoL K x V B) sz) a9 s9 0 0 (kA K)) 21 (xwL K x y s y V) sz 0 0 1175 [(0, .ref x), (1, .int u0), (2, .int v0), (3, .ref (x + 194)), (4, .ref (x + 195)), (5, .ref (x + 196)), (6, .ref (x + 197)), (7, .ref (x + 198)), (8, .ref (x + 199)), (9, .int (nI r3)), (10, .int (-1000002)), (11, .int (-1000001)), (12, .int (nI r195)), (13, .int (y (10 * r195 + 2))), (14, .int (zBal y r195)), (15, .int (nI (1 + r246)))] [.int (nI mx1175), .int (v0 >>> (6 &&& 31))] := by
                    obtain ⟨r1175, hr1175, hl1175⟩ := k_low l K sz (xwL K x y s y V) (v0 >>> (6 &&& 31)) (n := mx1175) (by omega) (by omega)
                    refine G.callSg (pc := 1175) (rest := []) (st1 := [.int (nI r1175)]) cx hl1175 ok_L_low dL_people_1175 wm_ml_L_27 rfl rfl (Nat.le_of_ble_eq_true rfl) ⟨Nat.le_of_ble_eq_true rfl, Nat.le_of_ble_eq_true rfl⟩ ⟨Nat.le_of_ble_eq_true rfl, Nat.le_of_ble_eq_true rfl⟩ rfl ?_
                    refine G.istore (pc := 1178) cx dL_people_1178 (by decide) rfl ?_
                    have J1202_5 : (¬ y (10 * r195 + 2) = 1 ∨ zBal y r195 - nI r1175 * y 205 < -4000) → G K p9 l e9 (rmL 7 0 0) s9 m9 a9 b9 t9 c9 (MQ b9 (QCp K (PoL K x V B) sz) a9 s9 0 0 (kA K)) 21 (xwL K x y s y V) sz 0 0 1202 [(0, .ref x), (1, .int u0), (2, .int v0), (3, .ref (x + 194)), (4, .ref (x + 195)), (5, .ref (x + 196)), (6, .ref (x + 197)), (7, .ref (x + 198)), (8, .ref (x + 199)), (9, .int (nI r3)), (10, .int (-1000002)), (11, .int (-1000001)), (12, .int (nI r195)), (13, .int (y (10 * r195 + 2))), (14, .int (zBal y r195)), (15, .int (nI (1 + r246))), (16, .int (nI r1175))] [] := by
                      intro hor1202
                      refine G.aload_n (pc := 1202) cx dL_people_1202 rfl 0 rfl ?_
                      refine G.iload (pc := 1203) cx dL_people_1203 12 rfl ?_
                      refine G.iload (pc := 1205) cx dL_people_1205 16 rfl ?_
                      obtain ⟨s1207, hs1207, hc1207⟩ := k_no (c := -1000002) (k_back (l := l) (K := K) (sz := sz) (x := x) (y := y) (V := V) hI hS (nI r195) (nI r1175)) (by exact no_back hI (by omega) (by omega) hor1202) (by first | decide | (split <;> decide))
                      refine G.callVg (pc := 1207) (rest := []) (st1 := [.int (-1000002)]) cx hc1207 ok_X9_back dL_people_1207 wm_ml_L_72 rfl xw_o rfl (Nat.le_of_ble_eq_true rfl) ⟨Nat.le_of_ble_eq_true rfl, Nat.le_of_ble_eq_true rfl⟩ ⟨Nat.le_of_ble_eq_true rfl, Nat.le_of_ble_eq_true rfl⟩ rfl ?_
                      refine G.iload (pc := 1210) cx dL_people_1210 10 rfl ?_
                      refine G.icmp_ne (pc := 1212) cx dL_people_1212 (tgt := 1232) (by decide) (fun h9 => absurd rfl h9) (fun _ => ?_)
                      refine G.aload_n (pc := 1215) cx dL_people_1215 rfl 0 rfl ?_
                      refine G.iload (pc := 1216) cx dL_people_1216 12 rfl ?_
                      refine G.bipush (pc := 1218) cx dL_people_1218 (v := 100) (by decide) ?_
                      obtain ⟨s1220, hs1220, hc1220⟩ := k_no (c := -1000001) (k_back (l := l) (K := K) (sz := sz) (x := x) (y := y) (V := V) hI hs1207 (nI r195) 100) (by exact bad_back _ _) (by first | decide | (split <;> decide))
                      refine G.callVg (pc := 1220) (rest := []) (st1 := [.int (-1000001)]) cx hc1220 ok_X9_back dL_people_1220 wm_ml_L_72 rfl xw_o rfl (Nat.le_of_ble_eq_true rfl) ⟨Nat.le_of_ble_eq_true rfl, Nat.le_of_ble_eq_true rfl⟩ ⟨Nat.le_of_ble_eq_true rfl, Nat.le_of_ble_eq_true rfl⟩ rfl ?_
                      refine G.iload (pc := 1223) cx dL_people_1223 11 rfl ?_
                      refine G.icmp_ne (pc := 1225) cx dL_people_1225 (tgt := 1232) (by decide) (fun h9 => absurd rfl h9) (fun _ => ?_)
                      refine G.iconst (pc := 1228) cx dL_people_1228 (v := 1) (by decide) ?_
                      refine G.goto (pc := 1229) cx dL_people_1229 (tgt := 1233) (by decide) ?_
                      refine G.zretP (pc := 1233) cx rfl dL_people_1233 rfl ?_
                      exact ⟨rfl, _, _, _, rfl, hs1220, hI.B (Nat.le_succ B)⟩
                    refine G.iload (pc := 1180) cx dL_people_1180 14 rfl ?_
                    refine G.iconst (pc := 1182) cx dL_people_1182 (v := 1) (by decide) ?_
                    refine G.icmp_ne (pc := 1183) cx dL_people_1183 (tgt := 1202) (by decide) (fun cq1183 => ?_) (fun cq1183 => ?_)
                    · skip
                      refine G.castL (lv' := [(0, .ref x), (1, .int u0), (2, .int v0), (3, .ref (x + 194)), (4, .ref (x + 195)), (5, .ref (x + 196)), (6, .ref (x + 197)), (7, .ref (x + 198)), (8, .ref (x + 199)), (9, .int (nI r3)), (10, .int (-1000002)), (11, .int (-1000001)), (12, .int (nI r195)), (13, .int (y (10 * r195 + 2))), (14, .int (zBal y r195)), (15, .int (nI (1 + r246))), (16, .int (nI r1175))]) [1, 2, 3, 4, 5, 6, 7, 8, 9, 10, 11, 12, 13, 14, 15, 16, 0] rfl ?_
                      exact J1202_5 (by first | exact Or.inl cq1183 | exact Or.inr nq1199)
                    · skip
                      refine G.iload (pc := 1186) cx dL_people_1186 15 rfl ?_
                      refine G.iload (pc := 1188) cx dL_people_1188 0 rfl ?_
                      refine G.aload_n (pc := 1190) cx dL_people_1190 rfl 4 rfl ?_
                      refine G.bipush (pc := 1191) cx dL_people_1191 (v := 15) (by decide) ?_
                      refine G.ialdV (pc := 1193) cx dL_people_1193 xl_g (j := 15) rfl (by omega) (by decide) (xr_g (n := 205) (by omega) (by omega)) ?_
                      refine G.imul (pc := 1194) cx dL_people_1194 ?_
                      refine G.isub (pc := 1195) cx dL_people_1195 ?_
                      refine G.sipush (pc := 1196) cx dL_people_1196 (v := (-4000)) (by decide) ?_
                      refine G.icmp_ge (pc := 1199) cx dL_people_1199 (tgt := 1234) (by decide) (fun cq1199 => ?_) (fun cq1199 => ?_)
                      · skip
                        have nq1199 := Int32.not_lt.mpr cq1199
                        refine G.aload (pc := 1234) cx dL_people_1234 5 rfl ?_
                        refine G.iconst (pc := 1236) cx dL_people_1236 (v := 3) (by decide) ?_
                        refine G.iload (pc := 1237) cx dL_people_1237 13 rfl ?_
                        refine G.imulN (pc := 1239) cx dL_people_1239 3 r195 ?_
                        refine G.iconst (pc := 1240) cx dL_people_1240 (v := 2) (by decide) ?_
                        refine G.iaddN (pc := 1241) cx dL_people_1241 (3 * r195) 2 ?_
                        refine G.iconst (pc := 1242) cx dL_people_1242 (v := 0) (by decide) ?_
                        refine G.iastC (pc := 1243) cx dL_people_1243 xl_a (j := ((3 * r195) + 2)) rfl (by omega) (by decide) (xs_a (n := 10 * r195 + 2) (by omega) (by omega)) ?_
                        refine G.aload_n (pc := 1244) cx dL_people_1244 rfl 4 rfl ?_
                        refine G.aload (pc := 1245) cx dL_people_1245 7 rfl ?_
                        refine G.aload (pc := 1247) cx dL_people_1247 9 rfl ?_
                        refine G.iload (pc := 1249) cx dL_people_1249 13 rfl ?_
                        refine G.iload (pc := 1251) cx dL_people_1251 0 rfl ?_
                        refine G.aload_n (pc := 1253) cx dL_people_1253 rfl 4 rfl ?_
                        refine G.bipush (pc := 1254) cx dL_people_1254 (v := 15) (by decide) ?_
                        refine G.ialdV (pc := 1256) cx dL_people_1256 xl_g (j := 15) rfl (by omega) (by decide) ((xr_g (n := 205) (by omega) (by omega)).trans (upd_n (i := 10 * r195 + 2) (j := 205) y 0 (by omega))) ?_
                        refine G.imul (pc := 1257) cx dL_people_1257 ?_
                        refine G.callSg (pc := 1258) (rest := []) (st1 := []) cx (c_L_fine l K sz x y s (upd y (10 * r195 + 2) 0) V r195 ((nI r1175) * (y 205)) E (by omega) (by first | exact hE | (rw [upd_n _ _ (by omega)]; exact hE) | (rw [upd_n _ _ (by omega), upd_n _ _ (by omega)]; exact hE) | (rw [upd_n _ _ (by omega), upd_n _ _ (by omega), upd_n _ _ (by omega)]; exact hE) | (rw [upd_n _ _ (by omega), upd_n _ _ (by omega), upd_n _ _ (by omega), upd_n _ _ (by omega)]; exact hE) | (rw [upd_n _ _ (by omega), upd_n _ _ (by omega), upd_n _ _ (by omega), upd_n _ _ (by omega), upd_n _ _ (by omega)]; exact hE) | (rw [upd_n _ _ (by omega), upd_n _ _ (by omega), upd_n _ _ (by omega), upd_n _ _ (by omega), upd_n _ _ (by omega), upd_n _ _ (by omega)]; exact hE)) (by omega)) ok_L_fine dL_people_1258 wm_ml_L_59 rfl rfl (Nat.le_of_ble_eq_true rfl) ⟨Nat.le_of_ble_eq_true rfl, Nat.le_of_ble_eq_true rfl⟩ ⟨Nat.le_of_ble_eq_true rfl, Nat.le_of_ble_eq_true rfl⟩ rfl ?_
                        refine G.aload_n (pc := 1261) cx dL_people_1261 rfl 1 rfl ?_
                        refine G.iload (pc := 1262) cx dL_people_1262 13 rfl ?_
                        refine G.iload (pc := 1264) cx dL_people_1264 0 rfl ?_
                        obtain ⟨s1266, hs1266, hc1266, M1266, hi1266⟩ := k_yes (v := (nI r1175) * (y 205)) (D2 := zFn (upd y (10 * r195 + 2) 0) r195 ((nI r1175) * (y 205))) (k_back (l := l) (K := K) (sz := sz) (x := x) (y := (zFn (upd y (10 * r195 + 2) 0) r195 ((nI r1175) * (y 205)))) (V := V) hI hS (nI r195) (nI r1175)) (by exact yes_back hI (by omega) (by omega) (fun q => q.elim (fun q => q cq1183) nq1199)) (by rfl) (by exact do_back hI (by omega) _)
                        refine G.callVg (pc := 1266) (rest := []) (st1 := [.int ((nI r1175) * (y 205))]) cx hc1266 ok_X9_back dL_people_1266 wm_ml_L_72 rfl xw_o rfl (Nat.le_of_ble_eq_true rfl) ⟨Nat.le_of_ble_eq_true rfl, Nat.le_of_ble_eq_true rfl⟩ ⟨Nat.le_of_ble_eq_true rfl, Nat.le_of_ble_eq_true rfl⟩ rfl ?_
                        refine G.iload (pc := 1269) cx dL_people_1269 0 rfl ?_
                        refine G.aload_n (pc := 1271) cx dL_people_1271 rfl 4 rfl ?_
                        refine G.bipush (pc := 1272) cx dL_people_1272 (v := 15) (by decide) ?_
                        refine G.ialdV (pc := 1274) cx dL_people_1274 xl_g (j := 15) rfl (by omega) (by decide) ((xr_g (n := 205) (by omega) (by omega)).trans ((by rw [zFn_lo (by omega) (by omega) (by omega), upd_n _ _ (by omega)]))) ?_
                        refine G.imul (pc := 1275) cx dL_people_1275 ?_
                        refine G.icmp_ne (pc := 1276) cx dL_people_1276 (tgt := 1283) (by decide) (fun h9 => absurd rfl h9) (fun _ => ?_)
                        refine G.iconst (pc := 1279) cx dL_people_1279 (v := 1) (by decide) ?_
                        refine G.goto (pc := 1280) cx dL_people_1280 (tgt := 1284) (by decide) ?_
                        refine G.zretP (pc := 1284) cx rfl dL_people_1284 rfl ?_
                        exact ⟨rfl, _, _, _, rfl, hs1266, hi1266⟩
                      · skip
                        have nq1199 := Int32.not_le.mp cq1199
                        refine G.castL (lv' := [(0, .ref x), (1, .int u0), (2, .int v0), (3, .ref (x + 194)), (4, .ref (x + 195)), (5, .ref (x + 196)), (6, .ref (x + 197)), (7, .ref (x + 198)), (8, .ref (x + 199)), (9, .int (nI r3)), (10, .int (-1000002)), (11, .int (-1000001)), (12, .int (nI r195)), (13, .int (y (10 * r195 + 2))), (14, .int (zBal y r195)), (15, .int (nI (1 + r246))), (16, .int (nI r1175))]) [1, 2, 3, 4, 5, 6, 7, 8, 9, 10, 11, 12, 13, 14, 15, 16, 0] rfl ?_
                        exact J1202_5 (by first | exact Or.inl cq1183 | exact Or.inr nq1199)
                  refine G.if_ne (pc := 1166) cx dL_people_1166 (tgt := 1173) (by decide) (fun cq1166 => ?_) (fun cq1166 => ?_)
                  · skip
                    refine G.bipush (pc := 1173) cx dL_people_1173 (v := 100) (by decide) ?_
                    refine G.castS (st' := [.int (nI mx1175), .int (v0 >>> (6 &&& 31))]) (congrArg (fun q9 => ([.int q9, .int (v0 >>> (6 &&& 31))] : List Value)) (show (100 : Int32) = nI mx1175 from by first | exact (congrArg nI (hm1175.1.trans (if_pos cq1166))).symm | exact (congrArg nI (hm1175.1.trans (if_neg (not_not_intro cq1166)))).symm)) ?_
                    refine G.castL (lv' := [(0, .ref x), (1, .int u0), (2, .int v0), (3, .ref (x + 194)), (4, .ref (x + 195)), (5, .ref (x + 196)), (6, .ref (x + 197)), (7, .ref (x + 198)), (8, .ref (x + 199)), (9, .int (nI r3)), (10, .int (-1000002)), (11, .int (-1000001)), (12, .int (nI r195)), (13, .int (y (10 * r195 + 2))), (14, .int (zBal y r195)), (15, .int (nI (1 + r246)))]) [1, 2, 3, 4, 5, 6, 7, 8, 9, 10, 11, 12, 13, 14, 15, 0] rfl ?_
                    exact J1175_4
                  · skip
                    refine G.iconst (pc := 1169) cx dL_people_1169 (v := 3) (by decide) ?_
                    refine G.goto (pc := 1170) cx dL_people_1170 (tgt := 1175) (by decide) ?_
                    refine G.castS (st' := [.int (nI mx1175), .int (v0 >>> (6 &&& 31))]) (congrArg (fun q9 => ([.int q9, .int (v0 >>> (6 &&& 31))] : List Value)) (show (3 : Int32) = nI mx1175 from by first | exact (congrArg nI (hm1175.1.trans (if_pos cq1166))).symm | exact (congrArg nI (hm1175.1.trans (if_neg (not_not_intro cq1166)))).symm)) ?_
                    refine G.castL (lv' := [(0, .ref x), (1, .int u0), (2, .int v0), (3, .ref (x + 194)), (4, .ref (x + 195)), (5, .ref (x + 196)), (6, .ref (x + 197)), (7, .ref (x + 198)), (8, .ref (x + 199)), (9, .int (nI r3)), (10, .int (-1000002)), (11, .int (-1000001)), (12, .int (nI r195)), (13, .int (y (10 * r195 + 2))), (14, .int (zBal y r195)), (15, .int (nI (1 + r246)))]) [1, 2, 3, 4, 5, 6, 7, 8, 9, 10, 11, 12, 13, 14, 15, 0] rfl ?_
                    exact J1175_4
                · skip
                  have J1078_6 : (S = 1 ∨ y (10 * r195 + 2) = 2 ∨ zBal y r195 < 0) → G K p9 l e9 (rmL 7 0 0) s9 m9 a9 b9 t9 c9 (MQ b9 (QCp K (PoL K x V B) sz) a9 s9 0 0 (kA K)) 21 (xwL K x y s y V) sz 0 0 1078 [(0, .ref x), (1, .int u0), (2, .int v0), (3, .ref (x + 194)), (4, .ref (x + 195)), (5, .ref (x + 196)), (6, .ref (x + 197)), (7, .ref (x + 198)), (8, .ref (x + 199)), (9, .int (nI r3)), (10, .int (-1000002)), (11, .int (-1000001)), (12, .int (nI r195)), (13, .int (y (10 * r195 + 2))), (14, .int (zBal y r195)), (15, .int (nI (1 + r246)))] [] := by
                    intro hor1078
                    refine G.aload_n (pc := 1078) cx dL_people_1078 rfl 0 rfl ?_
                    refine G.iload (pc := 1079) cx dL_people_1079 12 rfl ?_
                    obtain ⟨s1081, hs1081, hc1081⟩ := k_no (c := -1000002) (k_dismiss (l := l) (K := K) (sz := sz) (x := x) (y := y) (V := V) hI hS (nI r195)) (by exact no_dis hI (by omega) (hor1078.imp (sea_nat hSe hS1).mpr id)) (by first | decide | (split <;> decide))
                    refine G.callVg (pc := 1081) (rest := []) (st1 := [.int (-1000002)]) cx hc1081 ok_X9_dismiss dL_people_1081 wm_ml_L_65 rfl xw_o rfl (Nat.le_of_ble_eq_true rfl) ⟨Nat.le_of_ble_eq_true rfl, Nat.le_of_ble_eq_true rfl⟩ ⟨Nat.le_of_ble_eq_true rfl, Nat.le_of_ble_eq_true rfl⟩ rfl ?_
                    refine G.iload (pc := 1084) cx dL_people_1084 10 rfl ?_
                    refine G.icmp_ne (pc := 1086) cx dL_people_1086 (tgt := 1105) (by decide) (fun h9 => absurd rfl h9) (fun _ => ?_)
                    refine G.aload_n (pc := 1089) cx dL_people_1089 rfl 0 rfl ?_
                    refine G.aload_n (pc := 1090) cx dL_people_1090 rfl 3 rfl ?_
                    refine G.iconst (pc := 1091) cx dL_people_1091 (v := 4) (by decide) ?_
                    refine G.ialdV (pc := 1092) cx dL_people_1092 xl_g (j := 4) rfl (by omega) (by decide) ((xr_g (n := 194) (by omega) (by omega)).trans (hN)) ?_
                    obtain ⟨s1093, hs1093, hc1093⟩ := k_no (c := -1000001) (k_dismiss (l := l) (K := K) (sz := sz) (x := x) (y := y) (V := V) hI hs1081 (nI N)) (by exact bad_dis hI) (by first | decide | (split <;> decide))
                    refine G.callVg (pc := 1093) (rest := []) (st1 := [.int (-1000001)]) cx hc1093 ok_X9_dismiss dL_people_1093 wm_ml_L_65 rfl xw_o rfl (Nat.le_of_ble_eq_true rfl) ⟨Nat.le_of_ble_eq_true rfl, Nat.le_of_ble_eq_true rfl⟩ ⟨Nat.le_of_ble_eq_true rfl, Nat.le_of_ble_eq_true rfl⟩ rfl ?_
                    refine G.iload (pc := 1096) cx dL_people_1096 11 rfl ?_
                    refine G.icmp_ne (pc := 1098) cx dL_people_1098 (tgt := 1105) (by decide) (fun h9 => absurd rfl h9) (fun _ => ?_)
                    refine G.iconst (pc := 1101) cx dL_people_1101 (v := 1) (by decide) ?_
                    refine G.goto (pc := 1102) cx dL_people_1102 (tgt := 1106) (by decide) ?_
                    refine G.zretP (pc := 1106) cx rfl dL_people_1106 rfl ?_
                    exact ⟨rfl, _, _, _, rfl, hs1093, hI.B (Nat.le_succ B)⟩
                  refine G.aload_n (pc := 1060) cx dL_people_1060 rfl 4 rfl ?_
                  refine G.iconst (pc := 1061) cx dL_people_1061 (v := 1) (by decide) ?_
                  refine G.ialdV (pc := 1062) cx dL_people_1062 xl_g (j := 1) rfl (by omega) (by decide) ((xr_g (n := 191) (by omega) (by omega)).trans (hSe)) ?_
                  refine G.iconst (pc := 1063) cx dL_people_1063 (v := 1) (by decide) ?_
                  refine G.icmp_eqN (pc := 1064) cx S 1 (by omega) (by omega) dL_people_1064 (tgt := 1078) (by decide) (fun cq1064 => ?_) (fun cq1064 => ?_)
                  · skip
                    refine G.castL (lv' := [(0, .ref x), (1, .int u0), (2, .int v0), (3, .ref (x + 194)), (4, .ref (x + 195)), (5, .ref (x + 196)), (6, .ref (x + 197)), (7, .ref (x + 198)), (8, .ref (x + 199)), (9, .int (nI r3)), (10, .int (-1000002)), (11, .int (-1000001)), (12, .int (nI r195)), (13, .int (y (10 * r195 + 2))), (14, .int (zBal y r195)), (15, .int (nI (1 + r246)))]) [1, 2, 3, 4, 5, 6, 7, 8, 9, 10, 11, 12, 13, 14, 15, 0] rfl ?_
                    exact J1078_6 (by first | exact Or.inl cq1064 | exact Or.inr (Or.inl cq1070) | exact Or.inr (Or.inr nq1075))
                  · skip
                    refine G.iload (pc := 1067) cx dL_people_1067 14 rfl ?_
                    refine G.iconst (pc := 1069) cx dL_people_1069 (v := 2) (by decide) ?_
                    refine G.icmp_eq (pc := 1070) cx dL_people_1070 (tgt := 1078) (by decide) (fun cq1070 => ?_) (fun cq1070 => ?_)
                    · skip
                      refine G.castL (lv' := [(0, .ref x), (1, .int u0), (2, .int v0), (3, .ref (x + 194)), (4, .ref (x + 195)), (5, .ref (x + 196)), (6, .ref (x + 197)), (7, .ref (x + 198)), (8, .ref (x + 199)), (9, .int (nI r3)), (10, .int (-1000002)), (11, .int (-1000001)), (12, .int (nI r195)), (13, .int (y (10 * r195 + 2))), (14, .int (zBal y r195)), (15, .int (nI (1 + r246)))]) [1, 2, 3, 4, 5, 6, 7, 8, 9, 10, 11, 12, 13, 14, 15, 0] rfl ?_
                      exact J1078_6 (by first | exact Or.inl cq1064 | exact Or.inr (Or.inl cq1070) | exact Or.inr (Or.inr nq1075))
                    · skip
                      refine G.iload (pc := 1073) cx dL_people_1073 15 rfl ?_
                      refine G.if_ge (pc := 1075) cx dL_people_1075 (tgt := 1107) (by decide) (fun cq1075 => ?_) (fun cq1075 => ?_)
                      · skip
                        have nq1075 := Int32.not_lt.mpr cq1075
                        refine G.aload_n (pc := 1107) cx dL_people_1107 rfl 4 rfl ?_
                        refine G.aload (pc := 1108) cx dL_people_1108 6 rfl ?_
                        refine G.aload (pc := 1110) cx dL_people_1110 9 rfl ?_
                        refine G.iload (pc := 1112) cx dL_people_1112 13 rfl ?_
                        refine G.iload (pc := 1114) cx dL_people_1114 15 rfl ?_
                        refine G.callSg (pc := 1116) (rest := []) (st1 := []) cx (c_L_pay l K sz x y s y V r195 (zBal y r195) E (by omega) (by first | exact hE | (rw [upd_n _ _ (by omega)]; exact hE) | (rw [upd_n _ _ (by omega), upd_n _ _ (by omega)]; exact hE) | (rw [upd_n _ _ (by omega), upd_n _ _ (by omega), upd_n _ _ (by omega)]; exact hE) | (rw [upd_n _ _ (by omega), upd_n _ _ (by omega), upd_n _ _ (by omega), upd_n _ _ (by omega)]; exact hE) | (rw [upd_n _ _ (by omega), upd_n _ _ (by omega), upd_n _ _ (by omega), upd_n _ _ (by omega), upd_n _ _ (by omega)]; exact hE) | (rw [upd_n _ _ (by omega), upd_n _ _ (by omega), upd_n _ _ (by omega), upd_n _ _ (by omega), upd_n _ _ (by omega), upd_n _ _ (by omega)]; exact hE)) (by omega)) ok_L_pay dL_people_1116 wm_ml_L_69 rfl rfl (Nat.le_of_ble_eq_true rfl) ⟨Nat.le_of_ble_eq_true rfl, Nat.le_of_ble_eq_true rfl⟩ ⟨Nat.le_of_ble_eq_true rfl, Nat.le_of_ble_eq_true rfl⟩ rfl ?_
                        refine G.aload (pc := 1119) cx dL_people_1119 6 rfl ?_
                        refine G.aload (pc := 1121) cx dL_people_1121 7 rfl ?_
                        refine G.iload (pc := 1123) cx dL_people_1123 13 rfl ?_
                        refine G.iconst (pc := 1125) cx dL_people_1125 (v := 0) (by decide) ?_
                        refine G.callSg (pc := 1126) (rest := []) (st1 := []) cx (c_L_clear l K sz x y s (zPay y r195 (zBal y r195)) V r195 0 (by omega)) ok_L_clear dL_people_1126 wm_ml_L_39 rfl rfl (Nat.le_of_ble_eq_true rfl) ⟨Nat.le_of_ble_eq_true rfl, Nat.le_of_ble_eq_true rfl⟩ ⟨Nat.le_of_ble_eq_true rfl, Nat.le_of_ble_eq_true rfl⟩ rfl ?_
                        refine G.aload (pc := 1129) cx dL_people_1129 5 rfl ?_
                        refine G.iconst (pc := 1131) cx dL_people_1131 (v := 3) (by decide) ?_
                        refine G.iload (pc := 1132) cx dL_people_1132 13 rfl ?_
                        refine G.imulN (pc := 1134) cx dL_people_1134 3 r195 ?_
                        refine G.iconst (pc := 1135) cx dL_people_1135 (v := 2) (by decide) ?_
                        refine G.iaddN (pc := 1136) cx dL_people_1136 (3 * r195) 2 ?_
                        refine G.iconst (pc := 1137) cx dL_people_1137 (v := 2) (by decide) ?_
                        refine G.iastC (pc := 1138) cx dL_people_1138 xl_a (j := ((3 * r195) + 2)) rfl (by omega) (by decide) (xs_a (n := 10 * r195 + 2) (by omega) (by omega)) ?_
                        refine G.aload_n (pc := 1139) cx dL_people_1139 rfl 1 rfl ?_
                        refine G.iload (pc := 1140) cx dL_people_1140 13 rfl ?_
                        obtain ⟨s1142, hs1142, hc1142, M1142, hi1142⟩ := k_yes (v := zBal y r195) (D2 := upd (upd (zClear (zPay y r195 (zBal y r195)) r195) (10 * r195 + 8) 0) (10 * r195 + 2) 2) (k_dismiss (l := l) (K := K) (sz := sz) (x := x) (y := (upd (upd (zClear (zPay y r195 (zBal y r195)) r195) (10 * r195 + 8) 0) (10 * r195 + 2) 2)) (V := V) hI hS (nI r195)) (by exact yes_dis hI (by omega) (fun q => q.elim (fun q => cq1064 ((sea_nat hSe hS1).mp q)) (fun q => q.elim cq1070 nq1075))) (by rw [hI.cl (by omega)]) (by exact do_dis hI (by omega))
                        refine G.callVg (pc := 1142) (rest := []) (st1 := [.int (zBal y r195)]) cx hc1142 ok_X9_dismiss dL_people_1142 wm_ml_L_65 rfl xw_o rfl (Nat.le_of_ble_eq_true rfl) ⟨Nat.le_of_ble_eq_true rfl, Nat.le_of_ble_eq_true rfl⟩ ⟨Nat.le_of_ble_eq_true rfl, Nat.le_of_ble_eq_true rfl⟩ rfl ?_
                        refine G.iload (pc := 1145) cx dL_people_1145 15 rfl ?_
                        refine G.icmp_ne (pc := 1147) cx dL_people_1147 (tgt := 1154) (by decide) (fun h9 => absurd rfl h9) (fun _ => ?_)
                        refine G.iconst (pc := 1150) cx dL_people_1150 (v := 1) (by decide) ?_
                        refine G.goto (pc := 1151) cx dL_people_1151 (tgt := 1155) (by decide) ?_
                        refine G.zretP (pc := 1155) cx rfl dL_people_1155 rfl ?_
                        exact ⟨rfl, _, _, _, rfl, hs1142, hi1142⟩
                      · skip
                        have nq1075 := Int32.not_le.mp cq1075
                        refine G.castL (lv' := [(0, .ref x), (1, .int u0), (2, .int v0), (3, .ref (x + 194)), (4, .ref (x + 195)), (5, .ref (x + 196)), (6, .ref (x + 197)), (7, .ref (x + 198)), (8, .ref (x + 199)), (9, .int (nI r3)), (10, .int (-1000002)), (11, .int (-1000001)), (12, .int (nI r195)), (13, .int (y (10 * r195 + 2))), (14, .int (zBal y r195)), (15, .int (nI (1 + r246)))]) [1, 2, 3, 4, 5, 6, 7, 8, 9, 10, 11, 12, 13, 14, 15, 0] rfl ?_
                        exact J1078_6 (by first | exact Or.inl cq1064 | exact Or.inr (Or.inl cq1070) | exact Or.inr (Or.inr nq1075))
              · skip
                refine G.iload_n (pc := 738) cx dL_people_738 rfl 3 rfl ?_
                refine G.iconst (pc := 739) cx dL_people_739 (v := 5) (by decide) ?_
                refine G.ishr (pc := 740) cx dL_people_740 ?_
                refine G.iconst (pc := 741) cx dL_people_741 (v := 1) (by decide) ?_
                refine G.iand (pc := 742) cx dL_people_742 ?_
                obtain ⟨w743, hw743, ew743⟩ := pk_andE (v0 >>> (5 &&& 31)) (m := 1) 1 (by decide)
                refine G.castS (st' := [.int (nI w743)]) (by rw [ew743]) ?_
                refine G.istore (pc := 743) cx dL_people_743 (by decide) rfl ?_
                refine G.iconst (pc := 745) cx dL_people_745 (v := 0) (by decide) ?_
                refine G.istore (pc := 746) cx dL_people_746 (by decide) rfl ?_
                refine G.iconst (pc := 748) cx dL_people_748 (v := 1) (by decide) ?_
                refine G.istore (pc := 749) cx dL_people_749 (by decide) rfl ?_
                refine G.iconst (pc := 751) cx dL_people_751 (v := 0) (by decide) ?_
                refine G.istore (pc := 752) cx dL_people_752 (by decide) rfl ?_
                have L754_7 : ∀ (fz k754 : Nat), N - k754 < fz → k754 ≤ N → G K p9 l e9 (rmL 7 0 0) s9 m9 a9 b9 t9 c9 (MQ b9 (QCp K (PoL K x V B) sz) a9 s9 0 0 (kA K)) 21 (xwL K x y s y V) sz 0 0 754 [(18, .int 1), (16, .int (nI w743)), (15, .int (nI (1 + r246))), (0, .ref x), (1, .int u0), (2, .int v0), (3, .ref (x + 194)), (4, .ref (x + 195)), (5, .ref (x + 196)), (6, .ref (x + 197)), (7, .ref (x + 198)), (8, .ref (x + 199)), (9, .int (nI r3)), (10, .int (-1000002)), (11, .int (-1000001)), (12, .int (nI r195)), (13, .int (y (10 * r195 + 2))), (14, .int (zBal y r195)), (17, .int (nI (zOfW y (nI w743) k754))), (19, .int (nI k754))] [] := by
                  intro fz
                  induction fz with
                  | zero => intro k754 h9; omega
                  | succ fz ih754 =>
                    intro k754 h9754 h8754
                    refine G.iload (pc := 754) cx dL_people_754 19 rfl ?_
                    refine G.aload_n (pc := 756) cx dL_people_756 rfl 6 rfl ?_
                    refine G.iconst (pc := 757) cx dL_people_757 (v := 4) (by decide) ?_
                    refine G.ialdV (pc := 758) cx dL_people_758 xl_g (j := 4) rfl (by omega) (by decide) ((xr_g (n := 194) (by omega) (by omega)).trans (hN)) ?_
                    refine G.icmp_geN (pc := 759) cx k754 N (by omega) (by omega) dL_people_759 (tgt := 805) (by decide) (fun cq759 => ?_) (fun cq759 => ?_)
                    · skip
                      have nq759 := Nat.not_lt.mpr cq759
                      have ex754 : k754 = N := by omega
                      try rw [ex754]
                      refine G.iconst (pc := 805) cx dL_people_805 (v := 0) (by decide) ?_
                      refine G.istore (pc := 806) cx dL_people_806 (by decide) rfl ?_
                      refine G.iconst (pc := 808) cx dL_people_808 (v := 0) (by decide) ?_
                      refine G.istore (pc := 809) cx dL_people_809 (by decide) rfl ?_
                      have L811_8 : ∀ (fz k811 : Nat), N - k811 < fz → k811 ≤ N → G K p9 l e9 (rmL 7 0 0) s9 m9 a9 b9 t9 c9 (MQ b9 (QCp K (PoL K x V B) sz) a9 s9 0 0 (kA K)) 21 (xwL K x y s y V) sz 0 0 811 [(16, .int (nI w743)), (15, .int (nI (1 + r246))), (0, .ref x), (1, .int u0), (2, .int v0), (3, .ref (x + 194)), (4, .ref (x + 195)), (5, .ref (x + 196)), (6, .ref (x + 197)), (7, .ref (x + 198)), (8, .ref (x + 199)), (9, .int (nI r3)), (10, .int (-1000002)), (11, .int (-1000001)), (12, .int (nI r195)), (13, .int (y (10 * r195 + 2))), (14, .int (zBal y r195)), (17, .int (nI (zOfW y (nI w743) N))), (18, .int (b2 (lCan y N w743 (1 + r246) k811 = true))), (19, .int (nI (zOfW y (nI w743) k811))), (20, .int (nI k811))] [] := by
                        intro fz
                        induction fz with
                        | zero => intro k811 h9; omega
                        | succ fz ih811 =>
                          intro k811 h9811 h8811
                          refine G.iload (pc := 811) cx dL_people_811 20 rfl ?_
                          refine G.aload_n (pc := 813) cx dL_people_813 rfl 5 rfl ?_
                          refine G.iconst (pc := 814) cx dL_people_814 (v := 4) (by decide) ?_
                          refine G.ialdV (pc := 815) cx dL_people_815 xl_g (j := 4) rfl (by omega) (by decide) ((xr_g (n := 194) (by omega) (by omega)).trans (hN)) ?_
                          refine G.icmp_geN (pc := 816) cx k811 N (by omega) (by omega) dL_people_816 (tgt := 909) (by decide) (fun cq816 => ?_) (fun cq816 => ?_)
                          · skip
                            have nq816 := Nat.not_lt.mpr cq816
                            have ex811 : k811 = N := by omega
                            try rw [ex811]
                            have J919_9 : (zOfW y (nI w743) N = 0 ∨ ¬ lCan y N w743 (1 + r246) N = true) → G K p9 l e9 (rmL 7 0 0) s9 m9 a9 b9 t9 c9 (MQ b9 (QCp K (PoL K x V B) sz) a9 s9 0 0 (kA K)) 21 (xwL K x y s y V) sz 0 0 919 [(0, .ref x), (1, .int u0), (2, .int v0), (3, .ref (x + 194)), (4, .ref (x + 195)), (5, .ref (x + 196)), (6, .ref (x + 197)), (7, .ref (x + 198)), (8, .ref (x + 199)), (9, .int (nI r3)), (10, .int (-1000002)), (11, .int (-1000001)), (12, .int (nI r195)), (13, .int (y (10 * r195 + 2))), (14, .int (zBal y r195)), (15, .int (nI (1 + r246))), (16, .int (nI w743)), (17, .int (nI (zOfW y (nI w743) N))), (18, .int (b2 (lCan y N w743 (1 + r246) N = true))), (19, .int (nI (zOfW y (nI w743) N))), (20, .int (nI N))] [] := by
                              intro hor919
                              refine G.aload_n (pc := 919) cx dL_people_919 rfl 0 rfl ?_
                              refine G.iload (pc := 920) cx dL_people_920 16 rfl ?_
                              refine G.iload (pc := 922) cx dL_people_922 15 rfl ?_
                              obtain ⟨s924, hs924, hc924⟩ := k_no (c := -1000002) (k_fineWatch (l := l) (K := K) (sz := sz) (x := x) (y := y) (V := V) hI hS (nI w743) (nI (1 + r246))) (by exact no_fw hI (by omega) (by omega) (by omega) hor919) (by first | decide | (split <;> decide))
                              refine G.callVg (pc := 924) (rest := []) (st1 := [.int (-1000002)]) cx hc924 ok_X9_fineWatch dL_people_924 wm_ml_L_62 rfl xw_o rfl (Nat.le_of_ble_eq_true rfl) ⟨Nat.le_of_ble_eq_true rfl, Nat.le_of_ble_eq_true rfl⟩ ⟨Nat.le_of_ble_eq_true rfl, Nat.le_of_ble_eq_true rfl⟩ rfl ?_
                              refine G.iload (pc := 927) cx dL_people_927 10 rfl ?_
                              refine G.icmp_ne (pc := 929) cx dL_people_929 (tgt := 948) (by decide) (fun h9 => absurd rfl h9) (fun _ => ?_)
                              refine G.aload_n (pc := 932) cx dL_people_932 rfl 0 rfl ?_
                              refine G.iconst (pc := 933) cx dL_people_933 (v := 2) (by decide) ?_
                              refine G.iload (pc := 934) cx dL_people_934 15 rfl ?_
                              obtain ⟨s936, hs936, hc936⟩ := k_no (c := -1000001) (k_fineWatch (l := l) (K := K) (sz := sz) (x := x) (y := y) (V := V) hI hs924 2 (nI (1 + r246))) (by exact bad_fw _ _ _) (by first | decide | (split <;> decide))
                              refine G.callVg (pc := 936) (rest := []) (st1 := [.int (-1000001)]) cx hc936 ok_X9_fineWatch dL_people_936 wm_ml_L_62 rfl xw_o rfl (Nat.le_of_ble_eq_true rfl) ⟨Nat.le_of_ble_eq_true rfl, Nat.le_of_ble_eq_true rfl⟩ ⟨Nat.le_of_ble_eq_true rfl, Nat.le_of_ble_eq_true rfl⟩ rfl ?_
                              refine G.iload (pc := 939) cx dL_people_939 11 rfl ?_
                              refine G.icmp_ne (pc := 941) cx dL_people_941 (tgt := 948) (by decide) (fun h9 => absurd rfl h9) (fun _ => ?_)
                              refine G.iconst (pc := 944) cx dL_people_944 (v := 1) (by decide) ?_
                              refine G.goto (pc := 945) cx dL_people_945 (tgt := 949) (by decide) ?_
                              refine G.zretP (pc := 949) cx rfl dL_people_949 rfl ?_
                              exact ⟨rfl, _, _, _, rfl, hs936, hI.B (Nat.le_succ B)⟩
                            have hZ909 := zOfW_le y (nI w743) N
                            refine G.iload (pc := 909) cx dL_people_909 17 rfl ?_
                            refine G.if_eqN (pc := 911) cx (zOfW y (nI w743) N) (by omega) dL_people_911 (tgt := 919) (by decide) (fun cq911 => ?_) (fun cq911 => ?_)
                            · skip
                              refine G.castL (lv' := [(0, .ref x), (1, .int u0), (2, .int v0), (3, .ref (x + 194)), (4, .ref (x + 195)), (5, .ref (x + 196)), (6, .ref (x + 197)), (7, .ref (x + 198)), (8, .ref (x + 199)), (9, .int (nI r3)), (10, .int (-1000002)), (11, .int (-1000001)), (12, .int (nI r195)), (13, .int (y (10 * r195 + 2))), (14, .int (zBal y r195)), (15, .int (nI (1 + r246))), (16, .int (nI w743)), (17, .int (nI (zOfW y (nI w743) N))), (18, .int (b2 (lCan y N w743 (1 + r246) N = true))), (19, .int (nI (zOfW y (nI w743) N))), (20, .int (nI N))]) [2, 3, 4, 5, 6, 7, 8, 9, 10, 11, 12, 13, 14, 15, 16, 1, 0, 17, 18, 19, 20] rfl ?_
                              exact J919_9 (by first | exact Or.inl cq911 | exact Or.inr cq916)
                            · skip
                              refine G.iload (pc := 914) cx dL_people_914 18 rfl ?_
                              refine G.if_neB (pc := 916) cx dL_people_916 (tgt := 950) (by decide) (fun cq916 => ?_) (fun cq916 => ?_)
                              · skip
                                refine G.iconst (pc := 950) cx dL_people_950 (v := 0) (by decide) ?_
                                refine G.istore (pc := 951) cx dL_people_951 (by decide) rfl ?_
                                refine G.iconst (pc := 953) cx dL_people_953 (v := 0) (by decide) ?_
                                refine G.istore (pc := 954) cx dL_people_954 (by decide) rfl ?_
                                have L956_10 : ∀ (fz k956 : Nat), N - k956 < fz → k956 ≤ N → G K p9 l e9 (rmL 7 0 0) s9 m9 a9 b9 t9 c9 (MQ b9 (QCp K (PoL K x V B) sz) a9 s9 0 0 (kA K)) 21 (xwL K x y s (zFineTo y N (nI w743) (nI (1 + r246)) k956) V) sz 0 0 956 [(16, .int (nI w743)), (15, .int (nI (1 + r246))), (0, .ref x), (1, .int u0), (2, .int v0), (3, .ref (x + 194)), (4, .ref (x + 195)), (5, .ref (x + 196)), (6, .ref (x + 197)), (7, .ref (x + 198)), (8, .ref (x + 199)), (9, .int (nI r3)), (10, .int (-1000002)), (11, .int (-1000001)), (12, .int (nI r195)), (13, .int (y (10 * r195 + 2))), (14, .int (zBal y r195)), (17, .int (nI (zOfW y (nI w743) N))), (18, .int (b2 (lCan y N w743 (1 + r246) N = true))), (19, .int (nI (zOfW y (nI w743) k956))), (20, .int (nI k956))] [] := by
                                  intro fz
                                  induction fz with
                                  | zero => intro k956 h9; omega
                                  | succ fz ih956 =>
                                    intro k956 h9956 h8956
                                    refine G.iload (pc := 956) cx dL_people_956 20 rfl ?_
                                    refine G.aload_n (pc := 958) cx dL_people_958 rfl 5 rfl ?_
                                    refine G.iconst (pc := 959) cx dL_people_959 (v := 4) (by decide) ?_
                                    refine G.ialdV (pc := 960) cx dL_people_960 xl_g (j := 4) rfl (by omega) (by decide) ((xr_g (n := 194) (by omega) (by omega)).trans (((zFineTo_lo _ _ _ _ (by omega) (by omega) (by omega) (by omega) _ (fun q hq => by omega)).trans hN))) ?_
                                    refine G.icmp_geN (pc := 961) cx k956 N (by omega) (by omega) dL_people_961 (tgt := 1034) (by decide) (fun cq961 => ?_) (fun cq961 => ?_)
                                    · skip
                                      have nq961 := Nat.not_lt.mpr cq961
                                      have ex956 : k956 = N := by omega
                                      try rw [ex956]
                                      refine G.aload_n (pc := 1034) cx dL_people_1034 rfl 2 rfl ?_
                                      refine G.iload (pc := 1035) cx dL_people_1035 0 rfl ?_
                                      refine G.iload (pc := 1037) cx dL_people_1037 1 rfl ?_
                                      obtain ⟨s1039, hs1039, hc1039, M1039, hi1039⟩ := k_yes (v := nI (zOfW y (nI w743) N)) (D2 := zFineTo y N (nI w743) (nI (1 + r246)) N) (k_fineWatch (l := l) (K := K) (sz := sz) (x := x) (y := (zFineTo y N (nI w743) (nI (1 + r246)) N)) (V := V) hI hS (nI w743) (nI (1 + r246))) (by exact yes_fw hI (by omega) (by omega) (by omega) cq911 cq916) (by rfl) (by rfl)
                                      refine G.callVg (pc := 1039) (rest := []) (st1 := [.int (nI (zOfW y (nI w743) N))]) cx hc1039 ok_X9_fineWatch dL_people_1039 wm_ml_L_62 rfl xw_o rfl (Nat.le_of_ble_eq_true rfl) ⟨Nat.le_of_ble_eq_true rfl, Nat.le_of_ble_eq_true rfl⟩ ⟨Nat.le_of_ble_eq_true rfl, Nat.le_of_ble_eq_true rfl⟩ rfl ?_
                                      refine G.iload (pc := 1042) cx dL_people_1042 17 rfl ?_
                                      refine G.icmp_ne (pc := 1044) cx dL_people_1044 (tgt := 1051) (by decide) (fun h9 => absurd rfl h9) (fun _ => ?_)
                                      refine G.iconst (pc := 1047) cx dL_people_1047 (v := 1) (by decide) ?_
                                      refine G.goto (pc := 1048) cx dL_people_1048 (tgt := 1052) (by decide) ?_
                                      refine G.zretP (pc := 1052) cx rfl dL_people_1052 rfl ?_
                                      exact ⟨rfl, _, _, _, rfl, hs1039, hi1039⟩
                                    · skip
                                      have nq961 := Nat.not_le.mpr cq961
                                      refine G.aload (pc := 964) cx dL_people_964 6 rfl ?_
                                      refine G.iconst (pc := 966) cx dL_people_966 (v := 3) (by decide) ?_
                                      refine G.iload (pc := 967) cx dL_people_967 20 rfl ?_
                                      refine G.imulN (pc := 969) cx dL_people_969 3 k956 ?_
                                      refine G.iconst (pc := 970) cx dL_people_970 (v := 1) (by decide) ?_
                                      refine G.iaddN (pc := 971) cx dL_people_971 (3 * k956) 1 ?_
                                      refine G.ialdV (pc := 972) cx dL_people_972 xl_a (j := ((3 * k956) + 1)) rfl (by omega) (by decide) ((xr_a (n := 10 * k956 + 1) (by omega) (by omega)).trans ((fw_lo h16 (by omega) (Or.inl rfl)))) ?_
                                      refine G.iload (pc := 973) cx dL_people_973 0 rfl ?_
                                      refine G.icmp_ne (pc := 975) cx dL_people_975 (tgt := 1028) (by decide) (fun cq975 => ?_) (fun cq975 => ?_)
                                      · skip
                                        refine G.iinc (pc := 1028) cx dL_people_1028 (v := nI (k956 + 1)) (k := 20) rfl (nI_add k956 1) (by decide) rfl ?_
                                        refine G.goto (pc := 1031) cx dL_people_1031 (tgt := 956) (by decide) ?_
                                        refine G.cast (V' := (xwL K x y s (zFineTo y N (nI w743) (nI (1 + r246)) (k956 + 1)) V)) (congrArg (fun q9 => xwL K x y s q9 V) (show (zFineTo y N (nI w743) (nI (1 + r246)) k956) = (zFineTo y N (nI w743) (nI (1 + r246)) (k956 + 1)) from by first | exact ow_1 cq975 cq988 | exact ow_0c cq975 | exact ow_0d cq988 | exact fw_0 h16 (by omega) (Or.inl cq975) | exact fw_0 h16 (by omega) (Or.inr cq988) | exact fw_1 h16 (by omega) hAk956 (by omega) cq975 cq988 (lPt_1 (by omega)).symm | exact fw_1 h16 (by omega) hAk956 (by omega) cq975 cq988 (lPt_0 (by omega)).symm)) ?_
                                        refine G.castL (lv' := [(16, .int (nI w743)), (15, .int (nI (1 + r246))), (0, .ref x), (1, .int u0), (2, .int v0), (3, .ref (x + 194)), (4, .ref (x + 195)), (5, .ref (x + 196)), (6, .ref (x + 197)), (7, .ref (x + 198)), (8, .ref (x + 199)), (9, .int (nI r3)), (10, .int (-1000002)), (11, .int (-1000001)), (12, .int (nI r195)), (13, .int (y (10 * r195 + 2))), (14, .int (zBal y r195)), (17, .int (nI (zOfW y (nI w743) N))), (18, .int (b2 (lCan y N w743 (1 + r246) N = true))), (19, .int (nI (zOfW y (nI w743) k956))), (20, .int (nI (k956 + 1)))]) [1, 2, 3, 4, 5, 6, 7, 8, 9, 10, 11, 12, 13, 14, 15, 16, 17, 18, 19, 20, 0] rfl ?_
                                        refine G.lv0 (lv2 := [(16, .int (nI w743)), (15, .int (nI (1 + r246))), (0, .ref x), (1, .int u0), (2, .int v0), (3, .ref (x + 194)), (4, .ref (x + 195)), (5, .ref (x + 196)), (6, .ref (x + 197)), (7, .ref (x + 198)), (8, .ref (x + 199)), (9, .int (nI r3)), (10, .int (-1000002)), (11, .int (-1000001)), (12, .int (nI r195)), (13, .int (y (10 * r195 + 2))), (14, .int (zBal y r195)), (17, .int (nI (zOfW y (nI w743) N))), (18, .int (b2 (lCan y N w743 (1 + r246) N = true))), (19, .int (nI (zOfW y (nI w743) (k956 + 1)))), (20, .int (nI (k956 + 1)))]) (congrArg (fun q9 => ([(16, .int (nI w743)), (15, .int (nI (1 + r246))), (0, .ref x), (1, .int u0), (2, .int v0), (3, .ref (x + 194)), (4, .ref (x + 195)), (5, .ref (x + 196)), (6, .ref (x + 197)), (7, .ref (x + 198)), (8, .ref (x + 199)), (9, .int (nI r3)), (10, .int (-1000002)), (11, .int (-1000001)), (12, .int (nI r195)), (13, .int (y (10 * r195 + 2))), (14, .int (zBal y r195)), (17, .int (nI (zOfW y (nI w743) N))), (18, .int (b2 (lCan y N w743 (1 + r246) N = true))), (19, .int q9), (20, .int (nI (k956 + 1)))] : List (Nat × Value))) (show (nI (zOfW y (nI w743) k956) : Int32) = nI (zOfW y (nI w743) (k956 + 1)) from by first | exact ow_1 cq975 cq988 | exact ow_0c cq975 | exact ow_0d cq988 | exact fw_0 h16 (by omega) (Or.inl cq975) | exact fw_0 h16 (by omega) (Or.inr cq988) | exact fw_1 h16 (by omega) hAk956 (by omega) cq975 cq988 (lPt_1 (by omega)).symm | exact fw_1 h16 (by omega) hAk956 (by omega) cq975 cq988 (lPt_0 (by omega)).symm)) ?_
                                        exact ih956 (k956 + 1) (by omega) (by omega)
                                      · skip
                                        refine G.aload (pc := 978) cx dL_people_978 6 rfl ?_
                                        refine G.iconst (pc := 980) cx dL_people_980 (v := 3) (by decide) ?_
                                        refine G.iload (pc := 981) cx dL_people_981 20 rfl ?_
                                        refine G.imulN (pc := 983) cx dL_people_983 3 k956 ?_
                                        refine G.iconst (pc := 984) cx dL_people_984 (v := 2) (by decide) ?_
                                        refine G.iaddN (pc := 985) cx dL_people_985 (3 * k956) 2 ?_
                                        refine G.ialdV (pc := 986) cx dL_people_986 xl_a (j := ((3 * k956) + 2)) rfl (by omega) (by decide) ((xr_a (n := 10 * k956 + 2) (by omega) (by omega)).trans ((fw_lo h16 (by omega) (Or.inr rfl)))) ?_
                                        refine G.iconst (pc := 987) cx dL_people_987 (v := 2) (by decide) ?_
                                        refine G.icmp_ne (pc := 988) cx dL_people_988 (tgt := 994) (by decide) (fun cq988 => ?_) (fun cq988 => ?_)
                                        · skip
                                          have hAk956 := zOfW_pos (N := N) (by omega : k956 < N) ⟨cq975, cq988⟩
                                          have hBk956 := zOfW_le y (nI w743) N
                                          have hCk956 := zOfW_le y (nI w743) k956
                                          have hDk956 := Nat.mod_lt (1 + r246) hAk956
                                          have hEk956 := Nat.div_le_self (1 + r246) (zOfW y (nI w743) N)
                                          obtain ⟨E994, hE994b, hE994⟩ := (fw_inv hI (by omega) (by omega) cq911 cq916 (by omega : k956 ≤ N)).2.2.2.2.1
                                          refine G.aload_n (pc := 994) cx dL_people_994 rfl 5 rfl ?_
                                          refine G.aload (pc := 995) cx dL_people_995 8 rfl ?_
                                          refine G.aload (pc := 997) cx dL_people_997 10 rfl ?_
                                          refine G.iload (pc := 999) cx dL_people_999 20 rfl ?_
                                          refine G.iload (pc := 1001) cx dL_people_1001 1 rfl ?_
                                          refine G.iload (pc := 1003) cx dL_people_1003 17 rfl ?_
                                          refine G.idivN (pc := 1005) cx dL_people_1005 (1 + r246) (zOfW y (nI w743) N) (by omega) (by omega) (by omega) ?_
                                          refine G.iload (pc := 1006) cx dL_people_1006 19 rfl ?_
                                          refine G.iload (pc := 1008) cx dL_people_1008 1 rfl ?_
                                          refine G.iload (pc := 1010) cx dL_people_1010 17 rfl ?_
                                          refine G.iremN (pc := 1012) cx dL_people_1012 (1 + r246) (zOfW y (nI w743) N) (by omega) (by omega) (by omega) ?_
                                          refine G.icmp_geN (pc := 1013) cx (zOfW y (nI w743) k956) ((1 + r246) % (zOfW y (nI w743) N)) (by omega) (by omega) dL_people_1013 (tgt := 1020) (by decide) (fun cq1013 => ?_) (fun cq1013 => ?_)
                                          · skip
                                            have nq1013 := Nat.not_lt.mpr cq1013
                                            refine G.iconst (pc := 1020) cx dL_people_1020 (v := 0) (by decide) ?_
                                            refine G.iaddN (pc := 1021) cx dL_people_1021 ((1 + r246) / (zOfW y (nI w743) N)) 0 ?_
                                            refine G.callSg (pc := 1022) (rest := []) (st1 := []) cx (c_L_fine l K sz x y s (zFineTo y N (nI w743) (nI (1 + r246)) k956) V k956 (nI (((1 + r246) / (zOfW y (nI w743) N)) + 0)) E994 (by omega) (by exact hE994) (by omega)) ok_L_fine dL_people_1022 wm_ml_L_59 rfl rfl (Nat.le_of_ble_eq_true rfl) ⟨Nat.le_of_ble_eq_true rfl, Nat.le_of_ble_eq_true rfl⟩ ⟨Nat.le_of_ble_eq_true rfl, Nat.le_of_ble_eq_true rfl⟩ rfl ?_
                                            refine G.iinc (pc := 1025) cx dL_people_1025 (v := nI (zOfW y (nI w743) k956 + 1)) (k := 19) rfl (nI_add (zOfW y (nI w743) k956) 1) (by decide) rfl ?_
                                            refine G.iinc (pc := 1028) cx dL_people_1028 (v := nI (k956 + 1)) (k := 20) rfl (nI_add k956 1) (by decide) rfl ?_
                                            refine G.goto (pc := 1031) cx dL_people_1031 (tgt := 956) (by decide) ?_
                                            refine G.cast (V' := (xwL K x y s (zFineTo y N (nI w743) (nI (1 + r246)) (k956 + 1)) V)) (congrArg (fun q9 => xwL K x y s q9 V) (show (zFn (zFineTo y N (nI w743) (nI (1 + r246)) k956) k956 (nI (((1 + r246) / (zOfW y (nI w743) N)) + 0))) = (zFineTo y N (nI w743) (nI (1 + r246)) (k956 + 1)) from by first | exact ow_1 cq975 cq988 | exact ow_0c cq975 | exact ow_0d cq988 | exact fw_0 h16 (by omega) (Or.inl cq975) | exact fw_0 h16 (by omega) (Or.inr cq988) | exact fw_1 h16 (by omega) hAk956 (by omega) cq975 cq988 (lPt_1 (by omega)).symm | exact fw_1 h16 (by omega) hAk956 (by omega) cq975 cq988 (lPt_0 (by omega)).symm)) ?_
                                            refine G.castL (lv' := [(16, .int (nI w743)), (15, .int (nI (1 + r246))), (0, .ref x), (1, .int u0), (2, .int v0), (3, .ref (x + 194)), (4, .ref (x + 195)), (5, .ref (x + 196)), (6, .ref (x + 197)), (7, .ref (x + 198)), (8, .ref (x + 199)), (9, .int (nI r3)), (10, .int (-1000002)), (11, .int (-1000001)), (12, .int (nI r195)), (13, .int (y (10 * r195 + 2))), (14, .int (zBal y r195)), (17, .int (nI (zOfW y (nI w743) N))), (18, .int (b2 (lCan y N w743 (1 + r246) N = true))), (19, .int (nI (zOfW y (nI w743) k956 + 1))), (20, .int (nI (k956 + 1)))]) [2, 3, 4, 5, 6, 7, 8, 9, 10, 11, 12, 13, 14, 15, 16, 17, 18, 19, 20, 1, 0] rfl ?_
                                            refine G.lv0 (lv2 := [(16, .int (nI w743)), (15, .int (nI (1 + r246))), (0, .ref x), (1, .int u0), (2, .int v0), (3, .ref (x + 194)), (4, .ref (x + 195)), (5, .ref (x + 196)), (6, .ref (x + 197)), (7, .ref (x + 198)), (8, .ref (x + 199)), (9, .int (nI r3)), (10, .int (-1000002)), (11, .int (-1000001)), (12, .int (nI r195)), (13, .int (y (10 * r195 + 2))), (14, .int (zBal y r195)), (17, .int (nI (zOfW y (nI w743) N))), (18, .int (b2 (lCan y N w743 (1 + r246) N = true))), (19, .int (nI (zOfW y (nI w743) (k956 + 1)))), (20, .int (nI (k956 + 1)))]) (congrArg (fun q9 => ([(16, .int (nI w743)), (15, .int (nI (1 + r246))), (0, .ref x), (1, .int u0), (2, .int v0), (3, .ref (x + 194)), (4, .ref (x + 195)), (5, .ref (x + 196)), (6, .ref (x + 197)), (7, .ref (x + 198)), (8, .ref (x + 199)), (9, .int (nI r3)), (10, .int (-1000002)), (11, .int (-1000001)), (12, .int (nI r195)), (13, .int (y (10 * r195 + 2))), (14, .int (zBal y r195)), (17, .int (nI (zOfW y (nI w743) N))), (18, .int (b2 (lCan y N w743 (1 + r246) N = true))), (19, .int q9), (20, .int (nI (k956 + 1)))] : List (Nat × Value))) (show (nI (zOfW y (nI w743) k956 + 1) : Int32) = nI (zOfW y (nI w743) (k956 + 1)) from by first | exact ow_1 cq975 cq988 | exact ow_0c cq975 | exact ow_0d cq988 | exact fw_0 h16 (by omega) (Or.inl cq975) | exact fw_0 h16 (by omega) (Or.inr cq988) | exact fw_1 h16 (by omega) hAk956 (by omega) cq975 cq988 (lPt_1 (by omega)).symm | exact fw_1 h16 (by omega) hAk956 (by omega) cq975 cq988 (lPt_0 (by omega)).symm)) ?_
                                            exact ih956 (k956 + 1) (by omega) (by omega)
                                          · skip
                                            have nq1013 := Nat.not_le.mpr cq1013
                                            refine G.iconst (pc := 1016) cx dL_people_1016 (v := 1) (by decide) ?_
                                            refine G.goto (pc := 1017) cx dL_people_1017 (tgt := 1021) (by decide) ?_
                                            refine G.iaddN (pc := 1021) cx dL_people_1021 ((1 + r246) / (zOfW y (nI w743) N)) 1 ?_
                                            refine G.callSg (pc := 1022) (rest := []) (st1 := []) cx (c_L_fine l K sz x y s (zFineTo y N (nI w743) (nI (1 + r246)) k956) V k956 (nI (((1 + r246) / (zOfW y (nI w743) N)) + 1)) E994 (by omega) (by exact hE994) (by omega)) ok_L_fine dL_people_1022 wm_ml_L_59 rfl rfl (Nat.le_of_ble_eq_true rfl) ⟨Nat.le_of_ble_eq_true rfl, Nat.le_of_ble_eq_true rfl⟩ ⟨Nat.le_of_ble_eq_true rfl, Nat.le_of_ble_eq_true rfl⟩ rfl ?_
                                            refine G.iinc (pc := 1025) cx dL_people_1025 (v := nI (zOfW y (nI w743) k956 + 1)) (k := 19) rfl (nI_add (zOfW y (nI w743) k956) 1) (by decide) rfl ?_
                                            refine G.iinc (pc := 1028) cx dL_people_1028 (v := nI (k956 + 1)) (k := 20) rfl (nI_add k956 1) (by decide) rfl ?_
                                            refine G.goto (pc := 1031) cx dL_people_1031 (tgt := 956) (by decide) ?_
                                            refine G.cast (V' := (xwL K x y s (zFineTo y N (nI w743) (nI (1 + r246)) (k956 + 1)) V)) (congrArg (fun q9 => xwL K x y s q9 V) (show (zFn (zFineTo y N (nI w743) (nI (1 + r246)) k956) k956 (nI (((1 + r246) / (zOfW y (nI w743) N)) + 1))) = (zFineTo y N (nI w743) (nI (1 + r246)) (k956 + 1)) from by first | exact ow_1 cq975 cq988 | exact ow_0c cq975 | exact ow_0d cq988 | exact fw_0 h16 (by omega) (Or.inl cq975) | exact fw_0 h16 (by omega) (Or.inr cq988) | exact fw_1 h16 (by omega) hAk956 (by omega) cq975 cq988 (lPt_1 (by omega)).symm | exact fw_1 h16 (by omega) hAk956 (by omega) cq975 cq988 (lPt_0 (by omega)).symm)) ?_
                                            refine G.castL (lv' := [(16, .int (nI w743)), (15, .int (nI (1 + r246))), (0, .ref x), (1, .int u0), (2, .int v0), (3, .ref (x + 194)), (4, .ref (x + 195)), (5, .ref (x + 196)), (6, .ref (x + 197)), (7, .ref (x + 198)), (8, .ref (x + 199)), (9, .int (nI r3)), (10, .int (-1000002)), (11, .int (-1000001)), (12, .int (nI r195)), (13, .int (y (10 * r195 + 2))), (14, .int (zBal y r195)), (17, .int (nI (zOfW y (nI w743) N))), (18, .int (b2 (lCan y N w743 (1 + r246) N = true))), (19, .int (nI (zOfW y (nI w743) k956 + 1))), (20, .int (nI (k956 + 1)))]) [2, 3, 4, 5, 6, 7, 8, 9, 10, 11, 12, 13, 14, 15, 16, 17, 18, 19, 20, 1, 0] rfl ?_
                                            refine G.lv0 (lv2 := [(16, .int (nI w743)), (15, .int (nI (1 + r246))), (0, .ref x), (1, .int u0), (2, .int v0), (3, .ref (x + 194)), (4, .ref (x + 195)), (5, .ref (x + 196)), (6, .ref (x + 197)), (7, .ref (x + 198)), (8, .ref (x + 199)), (9, .int (nI r3)), (10, .int (-1000002)), (11, .int (-1000001)), (12, .int (nI r195)), (13, .int (y (10 * r195 + 2))), (14, .int (zBal y r195)), (17, .int (nI (zOfW y (nI w743) N))), (18, .int (b2 (lCan y N w743 (1 + r246) N = true))), (19, .int (nI (zOfW y (nI w743) (k956 + 1)))), (20, .int (nI (k956 + 1)))]) (congrArg (fun q9 => ([(16, .int (nI w743)), (15, .int (nI (1 + r246))), (0, .ref x), (1, .int u0), (2, .int v0), (3, .ref (x + 194)), (4, .ref (x + 195)), (5, .ref (x + 196)), (6, .ref (x + 197)), (7, .ref (x + 198)), (8, .ref (x + 199)), (9, .int (nI r3)), (10, .int (-1000002)), (11, .int (-1000001)), (12, .int (nI r195)), (13, .int (y (10 * r195 + 2))), (14, .int (zBal y r195)), (17, .int (nI (zOfW y (nI w743) N))), (18, .int (b2 (lCan y N w743 (1 + r246) N = true))), (19, .int q9), (20, .int (nI (k956 + 1)))] : List (Nat × Value))) (show (nI (zOfW y (nI w743) k956 + 1) : Int32) = nI (zOfW y (nI w743) (k956 + 1)) from by first | exact ow_1 cq975 cq988 | exact ow_0c cq975 | exact ow_0d cq988 | exact fw_0 h16 (by omega) (Or.inl cq975) | exact fw_0 h16 (by omega) (Or.inr cq988) | exact fw_1 h16 (by omega) hAk956 (by omega) cq975 cq988 (lPt_1 (by omega)).symm | exact fw_1 h16 (by omega) hAk956 (by omega) cq975 cq988 (lPt_0 (by omega)).symm)) ?_
                                            exact ih956 (k956 + 1) (by omega) (by omega)
                                        · skip
                                          refine G.goto (pc := 991) cx dL_people_991 (tgt := 1028) (by decide) ?_
                                          refine G.iinc (pc := 1028) cx dL_people_1028 (v := nI (k956 + 1)) (k := 20) rfl (nI_add k956 1) (by decide) rfl ?_
                                          refine G.goto (pc := 1031) cx dL_people_1031 (tgt := 956) (by decide) ?_
                                          refine G.cast (V' := (xwL K x y s (zFineTo y N (nI w743) (nI (1 + r246)) (k956 + 1)) V)) (congrArg (fun q9 => xwL K x y s q9 V) (show (zFineTo y N (nI w743) (nI (1 + r246)) k956) = (zFineTo y N (nI w743) (nI (1 + r246)) (k956 + 1)) from by first | exact ow_1 cq975 cq988 | exact ow_0c cq975 | exact ow_0d cq988 | exact fw_0 h16 (by omega) (Or.inl cq975) | exact fw_0 h16 (by omega) (Or.inr cq988) | exact fw_1 h16 (by omega) hAk956 (by omega) cq975 cq988 (lPt_1 (by omega)).symm | exact fw_1 h16 (by omega) hAk956 (by omega) cq975 cq988 (lPt_0 (by omega)).symm)) ?_
                                          refine G.castL (lv' := [(16, .int (nI w743)), (15, .int (nI (1 + r246))), (0, .ref x), (1, .int u0), (2, .int v0), (3, .ref (x + 194)), (4, .ref (x + 195)), (5, .ref (x + 196)), (6, .ref (x + 197)), (7, .ref (x + 198)), (8, .ref (x + 199)), (9, .int (nI r3)), (10, .int (-1000002)), (11, .int (-1000001)), (12, .int (nI r195)), (13, .int (y (10 * r195 + 2))), (14, .int (zBal y r195)), (17, .int (nI (zOfW y (nI w743) N))), (18, .int (b2 (lCan y N w743 (1 + r246) N = true))), (19, .int (nI (zOfW y (nI w743) k956))), (20, .int (nI (k956 + 1)))]) [1, 2, 3, 4, 5, 6, 7, 8, 9, 10, 11, 12, 13, 14, 15, 16, 17, 18, 19, 20, 0] rfl ?_
                                          refine G.lv0 (lv2 := [(16, .int (nI w743)), (15, .int (nI (1 + r246))), (0, .ref x), (1, .int u0), (2, .int v0), (3, .ref (x + 194)), (4, .ref (x + 195)), (5, .ref (x + 196)), (6, .ref (x + 197)), (7, .ref (x + 198)), (8, .ref (x + 199)), (9, .int (nI r3)), (10, .int (-1000002)), (11, .int (-1000001)), (12, .int (nI r195)), (13, .int (y (10 * r195 + 2))), (14, .int (zBal y r195)), (17, .int (nI (zOfW y (nI w743) N))), (18, .int (b2 (lCan y N w743 (1 + r246) N = true))), (19, .int (nI (zOfW y (nI w743) (k956 + 1)))), (20, .int (nI (k956 + 1)))]) (congrArg (fun q9 => ([(16, .int (nI w743)), (15, .int (nI (1 + r246))), (0, .ref x), (1, .int u0), (2, .int v0), (3, .ref (x + 194)), (4, .ref (x + 195)), (5, .ref (x + 196)), (6, .ref (x + 197)), (7, .ref (x + 198)), (8, .ref (x + 199)), (9, .int (nI r3)), (10, .int (-1000002)), (11, .int (-1000001)), (12, .int (nI r195)), (13, .int (y (10 * r195 + 2))), (14, .int (zBal y r195)), (17, .int (nI (zOfW y (nI w743) N))), (18, .int (b2 (lCan y N w743 (1 + r246) N = true))), (19, .int q9), (20, .int (nI (k956 + 1)))] : List (Nat × Value))) (show (nI (zOfW y (nI w743) k956) : Int32) = nI (zOfW y (nI w743) (k956 + 1)) from by first | exact ow_1 cq975 cq988 | exact ow_0c cq975 | exact ow_0d cq988 | exact fw_0 h16 (by omega) (Or.inl cq975) | exact fw_0 h16 (by omega) (Or.inr cq988) | exact fw_1 h16 (by omega) hAk956 (by omega) cq975 cq988 (lPt_1 (by omega)).symm | exact fw_1 h16 (by omega) hAk956 (by omega) cq975 cq988 (lPt_0 (by omega)).symm)) ?_
                                          exact ih956 (k956 + 1) (by omega) (by omega)
                                refine G.cast (V' := (xwL K x y s (zFineTo y N (nI w743) (nI (1 + r246)) 0) V)) (congrArg (fun q9 => xwL K x y s q9 V) (show y = (zFineTo y N (nI w743) (nI (1 + r246)) 0) from by rfl)) ?_
                                refine G.castL (lv' := [(16, .int (nI w743)), (15, .int (nI (1 + r246))), (0, .ref x), (1, .int u0), (2, .int v0), (3, .ref (x + 194)), (4, .ref (x + 195)), (5, .ref (x + 196)), (6, .ref (x + 197)), (7, .ref (x + 198)), (8, .ref (x + 199)), (9, .int (nI r3)), (10, .int (-1000002)), (11, .int (-1000001)), (12, .int (nI r195)), (13, .int (y (10 * r195 + 2))), (14, .int (zBal y r195)), (17, .int (nI (zOfW y (nI w743) N))), (18, .int (b2 (lCan y N w743 (1 + r246) N = true))), (19, .int 0), (20, .int 0)]) [2, 3, 4, 5, 6, 7, 8, 9, 10, 11, 12, 13, 14, 15, 16, 17, 18, 19, 20, 1, 0] rfl ?_
                                refine G.lv0 (lv2 := [(16, .int (nI w743)), (15, .int (nI (1 + r246))), (0, .ref x), (1, .int u0), (2, .int v0), (3, .ref (x + 194)), (4, .ref (x + 195)), (5, .ref (x + 196)), (6, .ref (x + 197)), (7, .ref (x + 198)), (8, .ref (x + 199)), (9, .int (nI r3)), (10, .int (-1000002)), (11, .int (-1000001)), (12, .int (nI r195)), (13, .int (y (10 * r195 + 2))), (14, .int (zBal y r195)), (17, .int (nI (zOfW y (nI w743) N))), (18, .int (b2 (lCan y N w743 (1 + r246) N = true))), (19, .int (nI (zOfW y (nI w743) 0))), (20, .int 0)]) (congrArg (fun q9 => ([(16, .int (nI w743)), (15, .int (nI (1 + r246))), (0, .ref x), (1, .int u0), (2, .int v0), (3, .ref (x + 194)), (4, .ref (x + 195)), (5, .ref (x + 196)), (6, .ref (x + 197)), (7, .ref (x + 198)), (8, .ref (x + 199)), (9, .int (nI r3)), (10, .int (-1000002)), (11, .int (-1000001)), (12, .int (nI r195)), (13, .int (y (10 * r195 + 2))), (14, .int (zBal y r195)), (17, .int (nI (zOfW y (nI w743) N))), (18, .int (b2 (lCan y N w743 (1 + r246) N = true))), (19, .int q9), (20, .int 0)] : List (Nat × Value))) (show (0 : Int32) = nI (zOfW y (nI w743) 0) from by rfl)) ?_
                                refine G.lv0 (lv2 := [(16, .int (nI w743)), (15, .int (nI (1 + r246))), (0, .ref x), (1, .int u0), (2, .int v0), (3, .ref (x + 194)), (4, .ref (x + 195)), (5, .ref (x + 196)), (6, .ref (x + 197)), (7, .ref (x + 198)), (8, .ref (x + 199)), (9, .int (nI r3)), (10, .int (-1000002)), (11, .int (-1000001)), (12, .int (nI r195)), (13, .int (y (10 * r195 + 2))), (14, .int (zBal y r195)), (17, .int (nI (zOfW y (nI w743) N))), (18, .int (b2 (lCan y N w743 (1 + r246) N = true))), (19, .int (nI (zOfW y (nI w743) 0))), (20, .int (nI 0))]) (congrArg (fun q9 => ([(16, .int (nI w743)), (15, .int (nI (1 + r246))), (0, .ref x), (1, .int u0), (2, .int v0), (3, .ref (x + 194)), (4, .ref (x + 195)), (5, .ref (x + 196)), (6, .ref (x + 197)), (7, .ref (x + 198)), (8, .ref (x + 199)), (9, .int (nI r3)), (10, .int (-1000002)), (11, .int (-1000001)), (12, .int (nI r195)), (13, .int (y (10 * r195 + 2))), (14, .int (zBal y r195)), (17, .int (nI (zOfW y (nI w743) N))), (18, .int (b2 (lCan y N w743 (1 + r246) N = true))), (19, .int (nI (zOfW y (nI w743) 0))), (20, .int q9)] : List (Nat × Value))) (show (0 : Int32) = nI 0 from by rfl)) ?_
                                exact L956_10 (N + 1) 0 (by omega) (by omega)
                              · skip
                                refine G.castL (lv' := [(0, .ref x), (1, .int u0), (2, .int v0), (3, .ref (x + 194)), (4, .ref (x + 195)), (5, .ref (x + 196)), (6, .ref (x + 197)), (7, .ref (x + 198)), (8, .ref (x + 199)), (9, .int (nI r3)), (10, .int (-1000002)), (11, .int (-1000001)), (12, .int (nI r195)), (13, .int (y (10 * r195 + 2))), (14, .int (zBal y r195)), (15, .int (nI (1 + r246))), (16, .int (nI w743)), (17, .int (nI (zOfW y (nI w743) N))), (18, .int (b2 (lCan y N w743 (1 + r246) N = true))), (19, .int (nI (zOfW y (nI w743) N))), (20, .int (nI N))]) [2, 3, 4, 5, 6, 7, 8, 9, 10, 11, 12, 13, 14, 15, 16, 1, 0, 17, 18, 19, 20] rfl ?_
                                exact J919_9 (by first | exact Or.inl cq911 | exact Or.inr cq916)
                          · skip
                            have nq816 := Nat.not_le.mpr cq816
                            refine G.aload (pc := 819) cx dL_people_819 6 rfl ?_
                            refine G.iconst (pc := 821) cx dL_people_821 (v := 3) (by decide) ?_
                            refine G.iload (pc := 822) cx dL_people_822 20 rfl ?_
                            refine G.imulN (pc := 824) cx dL_people_824 3 k811 ?_
                            refine G.iconst (pc := 825) cx dL_people_825 (v := 1) (by decide) ?_
                            refine G.iaddN (pc := 826) cx dL_people_826 (3 * k811) 1 ?_
                            refine G.ialdV (pc := 827) cx dL_people_827 xl_a (j := ((3 * k811) + 1)) rfl (by omega) (by decide) (xr_a (n := 10 * k811 + 1) (by omega) (by omega)) ?_
                            refine G.iload (pc := 828) cx dL_people_828 0 rfl ?_
                            refine G.icmp_ne (pc := 830) cx dL_people_830 (tgt := 903) (by decide) (fun cq830 => ?_) (fun cq830 => ?_)
                            · skip
                              refine G.iinc (pc := 903) cx dL_people_903 (v := nI (k811 + 1)) (k := 20) rfl (nI_add k811 1) (by decide) rfl ?_
                              refine G.goto (pc := 906) cx dL_people_906 (tgt := 811) (by decide) ?_
                              refine G.castL (lv' := [(16, .int (nI w743)), (15, .int (nI (1 + r246))), (0, .ref x), (1, .int u0), (2, .int v0), (3, .ref (x + 194)), (4, .ref (x + 195)), (5, .ref (x + 196)), (6, .ref (x + 197)), (7, .ref (x + 198)), (8, .ref (x + 199)), (9, .int (nI r3)), (10, .int (-1000002)), (11, .int (-1000001)), (12, .int (nI r195)), (13, .int (y (10 * r195 + 2))), (14, .int (zBal y r195)), (17, .int (nI (zOfW y (nI w743) N))), (18, .int (b2 (lCan y N w743 (1 + r246) k811 = true))), (19, .int (nI (zOfW y (nI w743) k811))), (20, .int (nI (k811 + 1)))]) [1, 2, 3, 4, 5, 6, 7, 8, 9, 10, 11, 12, 13, 14, 15, 16, 17, 18, 19, 20, 0] rfl ?_
                              refine G.lv0 (lv2 := [(16, .int (nI w743)), (15, .int (nI (1 + r246))), (0, .ref x), (1, .int u0), (2, .int v0), (3, .ref (x + 194)), (4, .ref (x + 195)), (5, .ref (x + 196)), (6, .ref (x + 197)), (7, .ref (x + 198)), (8, .ref (x + 199)), (9, .int (nI r3)), (10, .int (-1000002)), (11, .int (-1000001)), (12, .int (nI r195)), (13, .int (y (10 * r195 + 2))), (14, .int (zBal y r195)), (17, .int (nI (zOfW y (nI w743) N))), (18, .int (b2 (lCan y N w743 (1 + r246) (k811 + 1) = true))), (19, .int (nI (zOfW y (nI w743) k811))), (20, .int (nI (k811 + 1)))]) (congrArg (fun q9 => ([(16, .int (nI w743)), (15, .int (nI (1 + r246))), (0, .ref x), (1, .int u0), (2, .int v0), (3, .ref (x + 194)), (4, .ref (x + 195)), (5, .ref (x + 196)), (6, .ref (x + 197)), (7, .ref (x + 198)), (8, .ref (x + 199)), (9, .int (nI r3)), (10, .int (-1000002)), (11, .int (-1000001)), (12, .int (nI r195)), (13, .int (y (10 * r195 + 2))), (14, .int (zBal y r195)), (17, .int (nI (zOfW y (nI w743) N))), (18, .int q9), (19, .int (nI (zOfW y (nI w743) k811))), (20, .int (nI (k811 + 1)))] : List (Nat × Value))) (show (b2 (lCan y N w743 (1 + r246) k811 = true) : Int32) = b2 (lCan y N w743 (1 + r246) (k811 + 1) = true) from by first | exact can_0 (Or.inl cq830) Iff.rfl | exact can_0 (Or.inr cq843) Iff.rfl | exact ow_0c cq830 | exact ow_0d cq843 | exact ow_1 cq830 cq843 | exact can_f cq851 | exact can_1 cq851 cq830 cq843 (by first | (rw [lPt_1 (by omega), ← sub_pt1]; exact cq890) | (rw [lPt_0 (by omega), ← sub_pt0]; exact cq890)) | exact can_2 cq830 cq843 (by first | (rw [lPt_1 (by omega), ← sub_pt1]; exact cq890) | (rw [lPt_0 (by omega), ← sub_pt0]; exact cq890)))) ?_
                              refine G.lv0 (lv2 := [(16, .int (nI w743)), (15, .int (nI (1 + r246))), (0, .ref x), (1, .int u0), (2, .int v0), (3, .ref (x + 194)), (4, .ref (x + 195)), (5, .ref (x + 196)), (6, .ref (x + 197)), (7, .ref (x + 198)), (8, .ref (x + 199)), (9, .int (nI r3)), (10, .int (-1000002)), (11, .int (-1000001)), (12, .int (nI r195)), (13, .int (y (10 * r195 + 2))), (14, .int (zBal y r195)), (17, .int (nI (zOfW y (nI w743) N))), (18, .int (b2 (lCan y N w743 (1 + r246) (k811 + 1) = true))), (19, .int (nI (zOfW y (nI w743) (k811 + 1)))), (20, .int (nI (k811 + 1)))]) (congrArg (fun q9 => ([(16, .int (nI w743)), (15, .int (nI (1 + r246))), (0, .ref x), (1, .int u0), (2, .int v0), (3, .ref (x + 194)), (4, .ref (x + 195)), (5, .ref (x + 196)), (6, .ref (x + 197)), (7, .ref (x + 198)), (8, .ref (x + 199)), (9, .int (nI r3)), (10, .int (-1000002)), (11, .int (-1000001)), (12, .int (nI r195)), (13, .int (y (10 * r195 + 2))), (14, .int (zBal y r195)), (17, .int (nI (zOfW y (nI w743) N))), (18, .int (b2 (lCan y N w743 (1 + r246) (k811 + 1) = true))), (19, .int q9), (20, .int (nI (k811 + 1)))] : List (Nat × Value))) (show (nI (zOfW y (nI w743) k811) : Int32) = nI (zOfW y (nI w743) (k811 + 1)) from by first | exact can_0 (Or.inl cq830) Iff.rfl | exact can_0 (Or.inr cq843) Iff.rfl | exact ow_0c cq830 | exact ow_0d cq843 | exact ow_1 cq830 cq843 | exact can_f cq851 | exact can_1 cq851 cq830 cq843 (by first | (rw [lPt_1 (by omega), ← sub_pt1]; exact cq890) | (rw [lPt_0 (by omega), ← sub_pt0]; exact cq890)) | exact can_2 cq830 cq843 (by first | (rw [lPt_1 (by omega), ← sub_pt1]; exact cq890) | (rw [lPt_0 (by omega), ← sub_pt0]; exact cq890)))) ?_
                              exact ih811 (k811 + 1) (by omega) (by omega)
                            · skip
                              refine G.aload (pc := 833) cx dL_people_833 6 rfl ?_
                              refine G.iconst (pc := 835) cx dL_people_835 (v := 3) (by decide) ?_
                              refine G.iload (pc := 836) cx dL_people_836 20 rfl ?_
                              refine G.imulN (pc := 838) cx dL_people_838 3 k811 ?_
                              refine G.iconst (pc := 839) cx dL_people_839 (v := 2) (by decide) ?_
                              refine G.iaddN (pc := 840) cx dL_people_840 (3 * k811) 2 ?_
                              refine G.ialdV (pc := 841) cx dL_people_841 xl_a (j := ((3 * k811) + 2)) rfl (by omega) (by decide) (xr_a (n := 10 * k811 + 2) (by omega) (by omega)) ?_
                              refine G.iconst (pc := 842) cx dL_people_842 (v := 2) (by decide) ?_
                              refine G.icmp_ne (pc := 843) cx dL_people_843 (tgt := 849) (by decide) (fun cq843 => ?_) (fun cq843 => ?_)
                              · skip
                                refine G.iload (pc := 849) cx dL_people_849 18 rfl ?_
                                refine G.if_eqB (pc := 851) cx dL_people_851 (tgt := 897) (by decide) (fun cq851 => ?_) (fun cq851 => ?_)
                                · skip
                                  refine G.iconst (pc := 897) cx dL_people_897 (v := 0) (by decide) ?_
                                  refine G.istore (pc := 898) cx dL_people_898 (by decide) rfl ?_
                                  refine G.iinc (pc := 900) cx dL_people_900 (v := nI (zOfW y (nI w743) k811 + 1)) (k := 19) rfl (nI_add (zOfW y (nI w743) k811) 1) (by decide) rfl ?_
                                  refine G.iinc (pc := 903) cx dL_people_903 (v := nI (k811 + 1)) (k := 20) rfl (nI_add k811 1) (by decide) rfl ?_
                                  refine G.goto (pc := 906) cx dL_people_906 (tgt := 811) (by decide) ?_
                                  refine G.castL (lv' := [(16, .int (nI w743)), (15, .int (nI (1 + r246))), (0, .ref x), (1, .int u0), (2, .int v0), (3, .ref (x + 194)), (4, .ref (x + 195)), (5, .ref (x + 196)), (6, .ref (x + 197)), (7, .ref (x + 198)), (8, .ref (x + 199)), (9, .int (nI r3)), (10, .int (-1000002)), (11, .int (-1000001)), (12, .int (nI r195)), (13, .int (y (10 * r195 + 2))), (14, .int (zBal y r195)), (17, .int (nI (zOfW y (nI w743) N))), (18, .int 0), (19, .int (nI (zOfW y (nI w743) k811 + 1))), (20, .int (nI (k811 + 1)))]) [3, 4, 5, 6, 7, 8, 9, 10, 11, 12, 13, 14, 15, 16, 17, 18, 19, 20, 2, 1, 0] rfl ?_
                                  refine G.lv0 (lv2 := [(16, .int (nI w743)), (15, .int (nI (1 + r246))), (0, .ref x), (1, .int u0), (2, .int v0), (3, .ref (x + 194)), (4, .ref (x + 195)), (5, .ref (x + 196)), (6, .ref (x + 197)), (7, .ref (x + 198)), (8, .ref (x + 199)), (9, .int (nI r3)), (10, .int (-1000002)), (11, .int (-1000001)), (12, .int (nI r195)), (13, .int (y (10 * r195 + 2))), (14, .int (zBal y r195)), (17, .int (nI (zOfW y (nI w743) N))), (18, .int (b2 (lCan y N w743 (1 + r246) (k811 + 1) = true))), (19, .int (nI (zOfW y (nI w743) k811 + 1))), (20, .int (nI (k811 + 1)))]) (congrArg (fun q9 => ([(16, .int (nI w743)), (15, .int (nI (1 + r246))), (0, .ref x), (1, .int u0), (2, .int v0), (3, .ref (x + 194)), (4, .ref (x + 195)), (5, .ref (x + 196)), (6, .ref (x + 197)), (7, .ref (x + 198)), (8, .ref (x + 199)), (9, .int (nI r3)), (10, .int (-1000002)), (11, .int (-1000001)), (12, .int (nI r195)), (13, .int (y (10 * r195 + 2))), (14, .int (zBal y r195)), (17, .int (nI (zOfW y (nI w743) N))), (18, .int q9), (19, .int (nI (zOfW y (nI w743) k811 + 1))), (20, .int (nI (k811 + 1)))] : List (Nat × Value))) (show (0 : Int32) = b2 (lCan y N w743 (1 + r246) (k811 + 1) = true) from by first | exact can_0 (Or.inl cq830) Iff.rfl | exact can_0 (Or.inr cq843) Iff.rfl | exact ow_0c cq830 | exact ow_0d cq843 | exact ow_1 cq830 cq843 | exact can_f cq851 | exact can_1 cq851 cq830 cq843 (by first | (rw [lPt_1 (by omega), ← sub_pt1]; exact cq890) | (rw [lPt_0 (by omega), ← sub_pt0]; exact cq890)) | exact can_2 cq830 cq843 (by first | (rw [lPt_1 (by omega), ← sub_pt1]; exact cq890) | (rw [lPt_0 (by omega), ← sub_pt0]; exact cq890)))) ?_
                                  refine G.lv0 (lv2 := [(16, .int (nI w743)), (15, .int (nI (1 + r246))), (0, .ref x), (1, .int u0), (2, .int v0), (3, .ref (x + 194)), (4, .ref (x + 195)), (5, .ref (x + 196)), (6, .ref (x + 197)), (7, .ref (x + 198)), (8, .ref (x + 199)), (9, .int (nI r3)), (10, .int (-1000002)), (11, .int (-1000001)), (12, .int (nI r195)), (13, .int (y (10 * r195 + 2))), (14, .int (zBal y r195)), (17, .int (nI (zOfW y (nI w743) N))), (18, .int (b2 (lCan y N w743 (1 + r246) (k811 + 1) = true))), (19, .int (nI (zOfW y (nI w743) (k811 + 1)))), (20, .int (nI (k811 + 1)))]) (congrArg (fun q9 => ([(16, .int (nI w743)), (15, .int (nI (1 + r246))), (0, .ref x), (1, .int u0), (2, .int v0), (3, .ref (x + 194)), (4, .ref (x + 195)), (5, .ref (x + 196)), (6, .ref (x + 197)), (7, .ref (x + 198)), (8, .ref (x + 199)), (9, .int (nI r3)), (10, .int (-1000002)), (11, .int (-1000001)), (12, .int (nI r195)), (13, .int (y (10 * r195 + 2))), (14, .int (zBal y r195)), (17, .int (nI (zOfW y (nI w743) N))), (18, .int (b2 (lCan y N w743 (1 + r246) (k811 + 1) = true))), (19, .int q9), (20, .int (nI (k811 + 1)))] : List (Nat × Value))) (show (nI (zOfW y (nI w743) k811 + 1) : Int32) = nI (zOfW y (nI w743) (k811 + 1)) from by first | exact can_0 (Or.inl cq830) Iff.rfl | exact can_0 (Or.inr cq843) Iff.rfl | exact ow_0c cq830 | exact ow_0d cq843 | exact ow_1 cq830 cq843 | exact can_f cq851 | exact can_1 cq851 cq830 cq843 (by first | (rw [lPt_1 (by omega), ← sub_pt1]; exact cq890) | (rw [lPt_0 (by omega), ← sub_pt0]; exact cq890)) | exact can_2 cq830 cq843 (by first | (rw [lPt_1 (by omega), ← sub_pt1]; exact cq890) | (rw [lPt_0 (by omega), ← sub_pt0]; exact cq890)))) ?_
                                  exact ih811 (k811 + 1) (by omega) (by omega)
                                · skip
                                  have hAk811 := zOfW_pos (N := N) (by omega : k811 < N) ⟨cq830, cq843⟩
                                  have hBk811 := zOfW_le y (nI w743) N
                                  have hCk811 := zOfW_le y (nI w743) k811
                                  have hDk811 := Nat.mod_lt (1 + r246) hAk811
                                  have hEk811 := Nat.div_le_self (1 + r246) (zOfW y (nI w743) N)
                                  refine G.aload (pc := 854) cx dL_people_854 6 rfl ?_
                                  refine G.aload (pc := 856) cx dL_people_856 7 rfl ?_
                                  refine G.aload (pc := 858) cx dL_people_858 8 rfl ?_
                                  refine G.iload (pc := 860) cx dL_people_860 20 rfl ?_
                                  refine G.callSg (pc := 862) (rest := []) (st1 := [.int (zBal y k811)]) cx (c_L_balance l K sz x y s y V k811 (by omega)) ok_L_balance dL_people_862 wm_ml_L_23 rfl rfl (Nat.le_of_ble_eq_true rfl) ⟨Nat.le_of_ble_eq_true rfl, Nat.le_of_ble_eq_true rfl⟩ ⟨Nat.le_of_ble_eq_true rfl, Nat.le_of_ble_eq_true rfl⟩ rfl ?_
                                  refine G.iload (pc := 865) cx dL_people_865 1 rfl ?_
                                  refine G.iload (pc := 867) cx dL_people_867 17 rfl ?_
                                  refine G.idivN (pc := 869) cx dL_people_869 (1 + r246) (zOfW y (nI w743) N) (by omega) (by omega) (by omega) ?_
                                  refine G.isub (pc := 870) cx dL_people_870 ?_
                                  refine G.iload (pc := 871) cx dL_people_871 19 rfl ?_
                                  refine G.iload (pc := 873) cx dL_people_873 1 rfl ?_
                                  refine G.iload (pc := 875) cx dL_people_875 17 rfl ?_
                                  refine G.iremN (pc := 877) cx dL_people_877 (1 + r246) (zOfW y (nI w743) N) (by omega) (by omega) (by omega) ?_
                                  refine G.icmp_geN (pc := 878) cx (zOfW y (nI w743) k811) ((1 + r246) % (zOfW y (nI w743) N)) (by omega) (by omega) dL_people_878 (tgt := 885) (by decide) (fun cq878 => ?_) (fun cq878 => ?_)
                                  · skip
                                    have nq878 := Nat.not_lt.mpr cq878
                                    refine G.iconst (pc := 885) cx dL_people_885 (v := 0) (by decide) ?_
                                    refine G.isub (pc := 886) cx dL_people_886 ?_
                                    refine G.sipush (pc := 887) cx dL_people_887 (v := (-4000)) (by decide) ?_
                                    refine G.icmp_lt (pc := 890) cx dL_people_890 (tgt := 897) (by decide) (fun cq890 => ?_) (fun cq890 => ?_)
                                    · skip
                                      refine G.iconst (pc := 897) cx dL_people_897 (v := 0) (by decide) ?_
                                      refine G.istore (pc := 898) cx dL_people_898 (by decide) rfl ?_
                                      refine G.iinc (pc := 900) cx dL_people_900 (v := nI (zOfW y (nI w743) k811 + 1)) (k := 19) rfl (nI_add (zOfW y (nI w743) k811) 1) (by decide) rfl ?_
                                      refine G.iinc (pc := 903) cx dL_people_903 (v := nI (k811 + 1)) (k := 20) rfl (nI_add k811 1) (by decide) rfl ?_
                                      refine G.goto (pc := 906) cx dL_people_906 (tgt := 811) (by decide) ?_
                                      refine G.castL (lv' := [(16, .int (nI w743)), (15, .int (nI (1 + r246))), (0, .ref x), (1, .int u0), (2, .int v0), (3, .ref (x + 194)), (4, .ref (x + 195)), (5, .ref (x + 196)), (6, .ref (x + 197)), (7, .ref (x + 198)), (8, .ref (x + 199)), (9, .int (nI r3)), (10, .int (-1000002)), (11, .int (-1000001)), (12, .int (nI r195)), (13, .int (y (10 * r195 + 2))), (14, .int (zBal y r195)), (17, .int (nI (zOfW y (nI w743) N))), (18, .int 0), (19, .int (nI (zOfW y (nI w743) k811 + 1))), (20, .int (nI (k811 + 1)))]) [3, 4, 5, 6, 7, 8, 9, 10, 11, 12, 13, 14, 15, 16, 17, 18, 19, 20, 2, 1, 0] rfl ?_
                                      refine G.lv0 (lv2 := [(16, .int (nI w743)), (15, .int (nI (1 + r246))), (0, .ref x), (1, .int u0), (2, .int v0), (3, .ref (x + 194)), (4, .ref (x + 195)), (5, .ref (x + 196)), (6, .ref (x + 197)), (7, .ref (x + 198)), (8, .ref (x + 199)), (9, .int (nI r3)), (10, .int (-1000002)), (11, .int (-1000001)), (12, .int (nI r195)), (13, .int (y (10 * r195 + 2))), (14, .int (zBal y r195)), (17, .int (nI (zOfW y (nI w743) N))), (18, .int (b2 (lCan y N w743 (1 + r246) (k811 + 1) = true))), (19, .int (nI (zOfW y (nI w743) k811 + 1))), (20, .int (nI (k811 + 1)))]) (congrArg (fun q9 => ([(16, .int (nI w743)), (15, .int (nI (1 + r246))), (0, .ref x), (1, .int u0), (2, .int v0), (3, .ref (x + 194)), (4, .ref (x + 195)), (5, .ref (x + 196)), (6, .ref (x + 197)), (7, .ref (x + 198)), (8, .ref (x + 199)), (9, .int (nI r3)), (10, .int (-1000002)), (11, .int (-1000001)), (12, .int (nI r195)), (13, .int (y (10 * r195 + 2))), (14, .int (zBal y r195)), (17, .int (nI (zOfW y (nI w743) N))), (18, .int q9), (19, .int (nI (zOfW y (nI w743) k811 + 1))), (20, .int (nI (k811 + 1)))] : List (Nat × Value))) (show (0 : Int32) = b2 (lCan y N w743 (1 + r246) (k811 + 1) = true) from by first | exact can_0 (Or.inl cq830) Iff.rfl | exact can_0 (Or.inr cq843) Iff.rfl | exact ow_0c cq830 | exact ow_0d cq843 | exact ow_1 cq830 cq843 | exact can_f cq851 | exact can_1 cq851 cq830 cq843 (by first | (rw [lPt_1 (by omega), ← sub_pt1]; exact cq890) | (rw [lPt_0 (by omega), ← sub_pt0]; exact cq890)) | exact can_2 cq830 cq843 (by first | (rw [lPt_1 (by omega), ← sub_pt1]; exact cq890) | (rw [lPt_0 (by omega), ← sub_pt0]; exact cq890)))) ?_
                                      refine G.lv0 (lv2 := [(16, .int (nI w743)), (15, .int (nI (1 + r246))), (0, .ref x), (1, .int u0), (2, .int v0), (3, .ref (x + 194)), (4, .ref (x + 195)), (5, .ref (x + 196)), (6, .ref (x + 197)), (7, .ref (x + 198)), (8, .ref (x + 199)), (9, .int (nI r3)), (10, .int (-1000002)), (11, .int (-1000001)), (12, .int (nI r195)), (13, .int (y (10 * r195 + 2))), (14, .int (zBal y r195)), (17, .int (nI (zOfW y (nI w743) N))), (18, .int (b2 (lCan y N w743 (1 + r246) (k811 + 1) = true))), (19, .int (nI (zOfW y (nI w743) (k811 + 1)))), (20, .int (nI (k811 + 1)))]) (congrArg (fun q9 => ([(16, .int (nI w743)), (15, .int (nI (1 + r246))), (0, .ref x), (1, .int u0), (2, .int v0), (3, .ref (x + 194)), (4, .ref (x + 195)), (5, .ref (x + 196)), (6, .ref (x + 197)), (7, .ref (x + 198)), (8, .ref (x + 199)), (9, .int (nI r3)), (10, .int (-1000002)), (11, .int (-1000001)), (12, .int (nI r195)), (13, .int (y (10 * r195 + 2))), (14, .int (zBal y r195)), (17, .int (nI (zOfW y (nI w743) N))), (18, .int (b2 (lCan y N w743 (1 + r246) (k811 + 1) = true))), (19, .int q9), (20, .int (nI (k811 + 1)))] : List (Nat × Value))) (show (nI (zOfW y (nI w743) k811 + 1) : Int32) = nI (zOfW y (nI w743) (k811 + 1)) from by first | exact can_0 (Or.inl cq830) Iff.rfl | exact can_0 (Or.inr cq843) Iff.rfl | exact ow_0c cq830 | exact ow_0d cq843 | exact ow_1 cq830 cq843 | exact can_f cq851 | exact can_1 cq851 cq830 cq843 (by first | (rw [lPt_1 (by omega), ← sub_pt1]; exact cq890) | (rw [lPt_0 (by omega), ← sub_pt0]; exact cq890)) | exact can_2 cq830 cq843 (by first | (rw [lPt_1 (by omega), ← sub_pt1]; exact cq890) | (rw [lPt_0 (by omega), ← sub_pt0]; exact cq890)))) ?_
                                      exact ih811 (k811 + 1) (by omega) (by omega)
                                    · skip
                                      refine G.iconst (pc := 893) cx dL_people_893 (v := 1) (by decide) ?_
                                      refine G.goto (pc := 894) cx dL_people_894 (tgt := 898) (by decide) ?_
                                      refine G.istore (pc := 898) cx dL_people_898 (by decide) rfl ?_
                                      refine G.iinc (pc := 900) cx dL_people_900 (v := nI (zOfW y (nI w743) k811 + 1)) (k := 19) rfl (nI_add (zOfW y (nI w743) k811) 1) (by decide) rfl ?_
                                      refine G.iinc (pc := 903) cx dL_people_903 (v := nI (k811 + 1)) (k := 20) rfl (nI_add k811 1) (by decide) rfl ?_
                                      refine G.goto (pc := 906) cx dL_people_906 (tgt := 811) (by decide) ?_
                                      refine G.castL (lv' := [(16, .int (nI w743)), (15, .int (nI (1 + r246))), (0, .ref x), (1, .int u0), (2, .int v0), (3, .ref (x + 194)), (4, .ref (x + 195)), (5, .ref (x + 196)), (6, .ref (x + 197)), (7, .ref (x + 198)), (8, .ref (x + 199)), (9, .int (nI r3)), (10, .int (-1000002)), (11, .int (-1000001)), (12, .int (nI r195)), (13, .int (y (10 * r195 + 2))), (14, .int (zBal y r195)), (17, .int (nI (zOfW y (nI w743) N))), (18, .int 1), (19, .int (nI (zOfW y (nI w743) k811 + 1))), (20, .int (nI (k811 + 1)))]) [3, 4, 5, 6, 7, 8, 9, 10, 11, 12, 13, 14, 15, 16, 17, 18, 19, 20, 2, 1, 0] rfl ?_
                                      refine G.lv0 (lv2 := [(16, .int (nI w743)), (15, .int (nI (1 + r246))), (0, .ref x), (1, .int u0), (2, .int v0), (3, .ref (x + 194)), (4, .ref (x + 195)), (5, .ref (x + 196)), (6, .ref (x + 197)), (7, .ref (x + 198)), (8, .ref (x + 199)), (9, .int (nI r3)), (10, .int (-1000002)), (11, .int (-1000001)), (12, .int (nI r195)), (13, .int (y (10 * r195 + 2))), (14, .int (zBal y r195)), (17, .int (nI (zOfW y (nI w743) N))), (18, .int (b2 (lCan y N w743 (1 + r246) (k811 + 1) = true))), (19, .int (nI (zOfW y (nI w743) k811 + 1))), (20, .int (nI (k811 + 1)))]) (congrArg (fun q9 => ([(16, .int (nI w743)), (15, .int (nI (1 + r246))), (0, .ref x), (1, .int u0), (2, .int v0), (3, .ref (x + 194)), (4, .ref (x + 195)), (5, .ref (x + 196)), (6, .ref (x + 197)), (7, .ref (x + 198)), (8, .ref (x + 199)), (9, .int (nI r3)), (10, .int (-1000002)), (11, .int (-1000001)), (12, .int (nI r195)), (13, .int (y (10 * r195 + 2))), (14, .int (zBal y r195)), (17, .int (nI (zOfW y (nI w743) N))), (18, .int q9), (19, .int (nI (zOfW y (nI w743) k811 + 1))), (20, .int (nI (k811 + 1)))] : List (Nat × Value))) (show (1 : Int32) = b2 (lCan y N w743 (1 + r246) (k811 + 1) = true) from by first | exact can_0 (Or.inl cq830) Iff.rfl | exact can_0 (Or.inr cq843) Iff.rfl | exact ow_0c cq830 | exact ow_0d cq843 | exact ow_1 cq830 cq843 | exact can_f cq851 | exact can_1 cq851 cq830 cq843 (by first | (rw [lPt_1 (by omega), ← sub_pt1]; exact cq890) | (rw [lPt_0 (by omega), ← sub_pt0]; exact cq890)) | exact can_2 cq830 cq843 (by first | (rw [lPt_1 (by omega), ← sub_pt1]; exact cq890) | (rw [lPt_0 (by omega), ← sub_pt0]; exact cq890)))) ?_
                                      refine G.lv0 (lv2 := [(16, .int (nI w743)), (15, .int (nI (1 + r246))), (0, .ref x), (1, .int u0), (2, .int v0), (3, .ref (x + 194)), (4, .ref (x + 195)), (5, .ref (x + 196)), (6, .ref (x + 197)), (7, .ref (x + 198)), (8, .ref (x + 199)), (9, .int (nI r3)), (10, .int (-1000002)), (11, .int (-1000001)), (12, .int (nI r195)), (13, .int (y (10 * r195 + 2))), (14, .int (zBal y r195)), (17, .int (nI (zOfW y (nI w743) N))), (18, .int (b2 (lCan y N w743 (1 + r246) (k811 + 1) = true))), (19, .int (nI (zOfW y (nI w743) (k811 + 1)))), (20, .int (nI (k811 + 1)))]) (congrArg (fun q9 => ([(16, .int (nI w743)), (15, .int (nI (1 + r246))), (0, .ref x), (1, .int u0), (2, .int v0), (3, .ref (x + 194)), (4, .ref (x + 195)), (5, .ref (x + 196)), (6, .ref (x + 197)), (7, .ref (x + 198)), (8, .ref (x + 199)), (9, .int (nI r3)), (10, .int (-1000002)), (11, .int (-1000001)), (12, .int (nI r195)), (13, .int (y (10 * r195 + 2))), (14, .int (zBal y r195)), (17, .int (nI (zOfW y (nI w743) N))), (18, .int (b2 (lCan y N w743 (1 + r246) (k811 + 1) = true))), (19, .int q9), (20, .int (nI (k811 + 1)))] : List (Nat × Value))) (show (nI (zOfW y (nI w743) k811 + 1) : Int32) = nI (zOfW y (nI w743) (k811 + 1)) from by first | exact can_0 (Or.inl cq830) Iff.rfl | exact can_0 (Or.inr cq843) Iff.rfl | exact ow_0c cq830 | exact ow_0d cq843 | exact ow_1 cq830 cq843 | exact can_f cq851 | exact can_1 cq851 cq830 cq843 (by first | (rw [lPt_1 (by omega), ← sub_pt1]; exact cq890) | (rw [lPt_0 (by omega), ← sub_pt0]; exact cq890)) | exact can_2 cq830 cq843 (by first | (rw [lPt_1 (by omega), ← sub_pt1]; exact cq890) | (rw [lPt_0 (by omega), ← sub_pt0]; exact cq890)))) ?_
                                      exact ih811 (k811 + 1) (by omega) (by omega)
                                  · skip
                                    have nq878 := Nat.not_le.mpr cq878
                                    refine G.iconst (pc := 881) cx dL_people_881 (v := 1) (by decide) ?_
                                    refine G.goto (pc := 882) cx dL_people_882 (tgt := 886) (by decide) ?_
                                    refine G.isub (pc := 886) cx dL_people_886 ?_
                                    refine G.sipush (pc := 887) cx dL_people_887 (v := (-4000)) (by decide) ?_
                                    refine G.icmp_lt (pc := 890) cx dL_people_890 (tgt := 897) (by decide) (fun cq890 => ?_) (fun cq890 => ?_)
                                    · skip
                                      refine G.iconst (pc := 897) cx dL_people_897 (v := 0) (by decide) ?_
                                      refine G.istore (pc := 898) cx dL_people_898 (by decide) rfl ?_
                                      refine G.iinc (pc := 900) cx dL_people_900 (v := nI (zOfW y (nI w743) k811 + 1)) (k := 19) rfl (nI_add (zOfW y (nI w743) k811) 1) (by decide) rfl ?_
                                      refine G.iinc (pc := 903) cx dL_people_903 (v := nI (k811 + 1)) (k := 20) rfl (nI_add k811 1) (by decide) rfl ?_
                                      refine G.goto (pc := 906) cx dL_people_906 (tgt := 811) (by decide) ?_
                                      refine G.castL (lv' := [(16, .int (nI w743)), (15, .int (nI (1 + r246))), (0, .ref x), (1, .int u0), (2, .int v0), (3, .ref (x + 194)), (4, .ref (x + 195)), (5, .ref (x + 196)), (6, .ref (x + 197)), (7, .ref (x + 198)), (8, .ref (x + 199)), (9, .int (nI r3)), (10, .int (-1000002)), (11, .int (-1000001)), (12, .int (nI r195)), (13, .int (y (10 * r195 + 2))), (14, .int (zBal y r195)), (17, .int (nI (zOfW y (nI w743) N))), (18, .int 0), (19, .int (nI (zOfW y (nI w743) k811 + 1))), (20, .int (nI (k811 + 1)))]) [3, 4, 5, 6, 7, 8, 9, 10, 11, 12, 13, 14, 15, 16, 17, 18, 19, 20, 2, 1, 0] rfl ?_
                                      refine G.lv0 (lv2 := [(16, .int (nI w743)), (15, .int (nI (1 + r246))), (0, .ref x), (1, .int u0), (2, .int v0), (3, .ref (x + 194)), (4, .ref (x + 195)), (5, .ref (x + 196)), (6, .ref (x + 197)), (7, .ref (x + 198)), (8, .ref (x + 199)), (9, .int (nI r3)), (10, .int (-1000002)), (11, .int (-1000001)), (12, .int (nI r195)), (13, .int (y (10 * r195 + 2))), (14, .int (zBal y r195)), (17, .int (nI (zOfW y (nI w743) N))), (18, .int (b2 (lCan y N w743 (1 + r246) (k811 + 1) = true))), (19, .int (nI (zOfW y (nI w743) k811 + 1))), (20, .int (nI (k811 + 1)))]) (congrArg (fun q9 => ([(16, .int (nI w743)), (15, .int (nI (1 + r246))), (0, .ref x), (1, .int u0), (2, .int v0), (3, .ref (x + 194)), (4, .ref (x + 195)), (5, .ref (x + 196)), (6, .ref (x + 197)), (7, .ref (x + 198)), (8, .ref (x + 199)), (9, .int (nI r3)), (10, .int (-1000002)), (11, .int (-1000001)), (12, .int (nI r195)), (13, .int (y (10 * r195 + 2))), (14, .int (zBal y r195)), (17, .int (nI (zOfW y (nI w743) N))), (18, .int q9), (19, .int (nI (zOfW y (nI w743) k811 + 1))), (20, .int (nI (k811 + 1)))] : List (Nat × Value))) (show (0 : Int32) = b2 (lCan y N w743 (1 + r246) (k811 + 1) = true) from by first | exact can_0 (Or.inl cq830) Iff.rfl | exact can_0 (Or.inr cq843) Iff.rfl | exact ow_0c cq830 | exact ow_0d cq843 | exact ow_1 cq830 cq843 | exact can_f cq851 | exact can_1 cq851 cq830 cq843 (by first | (rw [lPt_1 (by omega), ← sub_pt1]; exact cq890) | (rw [lPt_0 (by omega), ← sub_pt0]; exact cq890)) | exact can_2 cq830 cq843 (by first | (rw [lPt_1 (by omega), ← sub_pt1]; exact cq890) | (rw [lPt_0 (by omega), ← sub_pt0]; exact cq890)))) ?_
                                      refine G.lv0 (lv2 := [(16, .int (nI w743)), (15, .int (nI (1 + r246))), (0, .ref x), (1, .int u0), (2, .int v0), (3, .ref (x + 194)), (4, .ref (x + 195)), (5, .ref (x + 196)), (6, .ref (x + 197)), (7, .ref (x + 198)), (8, .ref (x + 199)), (9, .int (nI r3)), (10, .int (-1000002)), (11, .int (-1000001)), (12, .int (nI r195)), (13, .int (y (10 * r195 + 2))), (14, .int (zBal y r195)), (17, .int (nI (zOfW y (nI w743) N))), (18, .int (b2 (lCan y N w743 (1 + r246) (k811 + 1) = true))), (19, .int (nI (zOfW y (nI w743) (k811 + 1)))), (20, .int (nI (k811 + 1)))]) (congrArg (fun q9 => ([(16, .int (nI w743)), (15, .int (nI (1 + r246))), (0, .ref x), (1, .int u0), (2, .int v0), (3, .ref (x + 194)), (4, .ref (x + 195)), (5, .ref (x + 196)), (6, .ref (x + 197)), (7, .ref (x + 198)), (8, .ref (x + 199)), (9, .int (nI r3)), (10, .int (-1000002)), (11, .int (-1000001)), (12, .int (nI r195)), (13, .int (y (10 * r195 + 2))), (14, .int (zBal y r195)), (17, .int (nI (zOfW y (nI w743) N))), (18, .int (b2 (lCan y N w743 (1 + r246) (k811 + 1) = true))), (19, .int q9), (20, .int (nI (k811 + 1)))] : List (Nat × Value))) (show (nI (zOfW y (nI w743) k811 + 1) : Int32) = nI (zOfW y (nI w743) (k811 + 1)) from by first | exact can_0 (Or.inl cq830) Iff.rfl | exact can_0 (Or.inr cq843) Iff.rfl | exact ow_0c cq830 | exact ow_0d cq843 | exact ow_1 cq830 cq843 | exact can_f cq851 | exact can_1 cq851 cq830 cq843 (by first | (rw [lPt_1 (by omega), ← sub_pt1]; exact cq890) | (rw [lPt_0 (by omega), ← sub_pt0]; exact cq890)) | exact can_2 cq830 cq843 (by first | (rw [lPt_1 (by omega), ← sub_pt1]; exact cq890) | (rw [lPt_0 (by omega), ← sub_pt0]; exact cq890)))) ?_
                                      exact ih811 (k811 + 1) (by omega) (by omega)
                                    · skip
                                      refine G.iconst (pc := 893) cx dL_people_893 (v := 1) (by decide) ?_
                                      refine G.goto (pc := 894) cx dL_people_894 (tgt := 898) (by decide) ?_
                                      refine G.istore (pc := 898) cx dL_people_898 (by decide) rfl ?_
                                      refine G.iinc (pc := 900) cx dL_people_900 (v := nI (zOfW y (nI w743) k811 + 1)) (k := 19) rfl (nI_add (zOfW y (nI w743) k811) 1) (by decide) rfl ?_
                                      refine G.iinc (pc := 903) cx dL_people_903 (v := nI (k811 + 1)) (k := 20) rfl (nI_add k811 1) (by decide) rfl ?_
                                      refine G.goto (pc := 906) cx dL_people_906 (tgt := 811) (by decide) ?_
                                      refine G.castL (lv' := [(16, .int (nI w743)), (15, .int (nI (1 + r246))), (0, .ref x), (1, .int u0), (2, .int v0), (3, .ref (x + 194)), (4, .ref (x + 195)), (5, .ref (x + 196)), (6, .ref (x + 197)), (7, .ref (x + 198)), (8, .ref (x + 199)), (9, .int (nI r3)), (10, .int (-1000002)), (11, .int (-1000001)), (12, .int (nI r195)), (13, .int (y (10 * r195 + 2))), (14, .int (zBal y r195)), (17, .int (nI (zOfW y (nI w743) N))), (18, .int 1), (19, .int (nI (zOfW y (nI w743) k811 + 1))), (20, .int (nI (k811 + 1)))]) [3, 4, 5, 6, 7, 8, 9, 10, 11, 12, 13, 14, 15, 16, 17, 18, 19, 20, 2, 1, 0] rfl ?_
                                      refine G.lv0 (lv2 := [(16, .int (nI w743)), (15, .int (nI (1 + r246))), (0, .ref x), (1, .int u0), (2, .int v0), (3, .ref (x + 194)), (4, .ref (x + 195)), (5, .ref (x + 196)), (6, .ref (x + 197)), (7, .ref (x + 198)), (8, .ref (x + 199)), (9, .int (nI r3)), (10, .int (-1000002)), (11, .int (-1000001)), (12, .int (nI r195)), (13, .int (y (10 * r195 + 2))), (14, .int (zBal y r195)), (17, .int (nI (zOfW y (nI w743) N))), (18, .int (b2 (lCan y N w743 (1 + r246) (k811 + 1) = true))), (19, .int (nI (zOfW y (nI w743) k811 + 1))), (20, .int (nI (k811 + 1)))]) (congrArg (fun q9 => ([(16, .int (nI w743)), (15, .int (nI (1 + r246))), (0, .ref x), (1, .int u0), (2, .int v0), (3, .ref (x + 194)), (4, .ref (x + 195)), (5, .ref (x + 196)), (6, .ref (x + 197)), (7, .ref (x + 198)), (8, .ref (x + 199)), (9, .int (nI r3)), (10, .int (-1000002)), (11, .int (-1000001)), (12, .int (nI r195)), (13, .int (y (10 * r195 + 2))), (14, .int (zBal y r195)), (17, .int (nI (zOfW y (nI w743) N))), (18, .int q9), (19, .int (nI (zOfW y (nI w743) k811 + 1))), (20, .int (nI (k811 + 1)))] : List (Nat × Value))) (show (1 : Int32) = b2 (lCan y N w743 (1 + r246) (k811 + 1) = true) from by first | exact can_0 (Or.inl cq830) Iff.rfl | exact can_0 (Or.inr cq843) Iff.rfl | exact ow_0c cq830 | exact ow_0d cq843 | exact ow_1 cq830 cq843 | exact can_f cq851 | exact can_1 cq851 cq830 cq843 (by first | (rw [lPt_1 (by omega), ← sub_pt1]; exact cq890) | (rw [lPt_0 (by omega), ← sub_pt0]; exact cq890)) | exact can_2 cq830 cq843 (by first | (rw [lPt_1 (by omega), ← sub_pt1]; exact cq890) | (rw [lPt_0 (by omega), ← sub_pt0]; exact cq890)))) ?_
                                      refine G.lv0 (lv2 := [(16, .int (nI w743)), (15, .int (nI (1 + r246))), (0, .ref x), (1, .int u0), (2, .int v0), (3, .ref (x + 194)), (4, .ref (x + 195)), (5, .ref (x + 196)), (6, .ref (x + 197)), (7, .ref (x + 198)), (8, .ref (x + 199)), (9, .int (nI r3)), (10, .int (-1000002)), (11, .int (-1000001)), (12, .int (nI r195)), (13, .int (y (10 * r195 + 2))), (14, .int (zBal y r195)), (17, .int (nI (zOfW y (nI w743) N))), (18, .int (b2 (lCan y N w743 (1 + r246) (k811 + 1) = true))), (19, .int (nI (zOfW y (nI w743) (k811 + 1)))), (20, .int (nI (k811 + 1)))]) (congrArg (fun q9 => ([(16, .int (nI w743)), (15, .int (nI (1 + r246))), (0, .ref x), (1, .int u0), (2, .int v0), (3, .ref (x + 194)), (4, .ref (x + 195)), (5, .ref (x + 196)), (6, .ref (x + 197)), (7, .ref (x + 198)), (8, .ref (x + 199)), (9, .int (nI r3)), (10, .int (-1000002)), (11, .int (-1000001)), (12, .int (nI r195)), (13, .int (y (10 * r195 + 2))), (14, .int (zBal y r195)), (17, .int (nI (zOfW y (nI w743) N))), (18, .int (b2 (lCan y N w743 (1 + r246) (k811 + 1) = true))), (19, .int q9), (20, .int (nI (k811 + 1)))] : List (Nat × Value))) (show (nI (zOfW y (nI w743) k811 + 1) : Int32) = nI (zOfW y (nI w743) (k811 + 1)) from by first | exact can_0 (Or.inl cq830) Iff.rfl | exact can_0 (Or.inr cq843) Iff.rfl | exact ow_0c cq830 | exact ow_0d cq843 | exact ow_1 cq830 cq843 | exact can_f cq851 | exact can_1 cq851 cq830 cq843 (by first | (rw [lPt_1 (by omega), ← sub_pt1]; exact cq890) | (rw [lPt_0 (by omega), ← sub_pt0]; exact cq890)) | exact can_2 cq830 cq843 (by first | (rw [lPt_1 (by omega), ← sub_pt1]; exact cq890) | (rw [lPt_0 (by omega), ← sub_pt0]; exact cq890)))) ?_
                                      exact ih811 (k811 + 1) (by omega) (by omega)
                              · skip
                                refine G.goto (pc := 846) cx dL_people_846 (tgt := 903) (by decide) ?_
                                refine G.iinc (pc := 903) cx dL_people_903 (v := nI (k811 + 1)) (k := 20) rfl (nI_add k811 1) (by decide) rfl ?_
                                refine G.goto (pc := 906) cx dL_people_906 (tgt := 811) (by decide) ?_
                                refine G.castL (lv' := [(16, .int (nI w743)), (15, .int (nI (1 + r246))), (0, .ref x), (1, .int u0), (2, .int v0), (3, .ref (x + 194)), (4, .ref (x + 195)), (5, .ref (x + 196)), (6, .ref (x + 197)), (7, .ref (x + 198)), (8, .ref (x + 199)), (9, .int (nI r3)), (10, .int (-1000002)), (11, .int (-1000001)), (12, .int (nI r195)), (13, .int (y (10 * r195 + 2))), (14, .int (zBal y r195)), (17, .int (nI (zOfW y (nI w743) N))), (18, .int (b2 (lCan y N w743 (1 + r246) k811 = true))), (19, .int (nI (zOfW y (nI w743) k811))), (20, .int (nI (k811 + 1)))]) [1, 2, 3, 4, 5, 6, 7, 8, 9, 10, 11, 12, 13, 14, 15, 16, 17, 18, 19, 20, 0] rfl ?_
                                refine G.lv0 (lv2 := [(16, .int (nI w743)), (15, .int (nI (1 + r246))), (0, .ref x), (1, .int u0), (2, .int v0), (3, .ref (x + 194)), (4, .ref (x + 195)), (5, .ref (x + 196)), (6, .ref (x + 197)), (7, .ref (x + 198)), (8, .ref (x + 199)), (9, .int (nI r3)), (10, .int (-1000002)), (11, .int (-1000001)), (12, .int (nI r195)), (13, .int (y (10 * r195 + 2))), (14, .int (zBal y r195)), (17, .int (nI (zOfW y (nI w743) N))), (18, .int (b2 (lCan y N w743 (1 + r246) (k811 + 1) = true))), (19, .int (nI (zOfW y (nI w743) k811))), (20, .int (nI (k811 + 1)))]) (congrArg (fun q9 => ([(16, .int (nI w743)), (15, .int (nI (1 + r246))), (0, .ref x), (1, .int u0), (2, .int v0), (3, .ref (x + 194)), (4, .ref (x + 195)), (5, .ref (x + 196)), (6, .ref (x + 197)), (7, .ref (x + 198)), (8, .ref (x + 199)), (9, .int (nI r3)), (10, .int (-1000002)), (11, .int (-1000001)), (12, .int (nI r195)), (13, .int (y (10 * r195 + 2))), (14, .int (zBal y r195)), (17, .int (nI (zOfW y (nI w743) N))), (18, .int q9), (19, .int (nI (zOfW y (nI w743) k811))), (20, .int (nI (k811 + 1)))] : List (Nat × Value))) (show (b2 (lCan y N w743 (1 + r246) k811 = true) : Int32) = b2 (lCan y N w743 (1 + r246) (k811 + 1) = true) from by first | exact can_0 (Or.inl cq830) Iff.rfl | exact can_0 (Or.inr cq843) Iff.rfl | exact ow_0c cq830 | exact ow_0d cq843 | exact ow_1 cq830 cq843 | exact can_f cq851 | exact can_1 cq851 cq830 cq843 (by first | (rw [lPt_1 (by omega), ← sub_pt1]; exact cq890) | (rw [lPt_0 (by omega), ← sub_pt0]; exact cq890)) | exact can_2 cq830 cq843 (by first | (rw [lPt_1 (by omega), ← sub_pt1]; exact cq890) | (rw [lPt_0 (by omega), ← sub_pt0]; exact cq890)))) ?_
                                refine G.lv0 (lv2 := [(16, .int (nI w743)), (15, .int (nI (1 + r246))), (0, .ref x), (1, .int u0), (2, .int v0), (3, .ref (x + 194)), (4, .ref (x + 195)), (5, .ref (x + 196)), (6, .ref (x + 197)), (7, .ref (x + 198)), (8, .ref (x + 199)), (9, .int (nI r3)), (10, .int (-1000002)), (11, .int (-1000001)), (12, .int (nI r195)), (13, .int (y (10 * r195 + 2))), (14, .int (zBal y r195)), (17, .int (nI (zOfW y (nI w743) N))), (18, .int (b2 (lCan y N w743 (1 + r246) (k811 + 1) = true))), (19, .int (nI (zOfW y (nI w743) (k811 + 1)))), (20, .int (nI (k811 + 1)))]) (congrArg (fun q9 => ([(16, .int (nI w743)), (15, .int (nI (1 + r246))), (0, .ref x), (1, .int u0), (2, .int v0), (3, .ref (x + 194)), (4, .ref (x + 195)), (5, .ref (x + 196)), (6, .ref (x + 197)), (7, .ref (x + 198)), (8, .ref (x + 199)), (9, .int (nI r3)), (10, .int (-1000002)), (11, .int (-1000001)), (12, .int (nI r195)), (13, .int (y (10 * r195 + 2))), (14, .int (zBal y r195)), (17, .int (nI (zOfW y (nI w743) N))), (18, .int (b2 (lCan y N w743 (1 + r246) (k811 + 1) = true))), (19, .int q9), (20, .int (nI (k811 + 1)))] : List (Nat × Value))) (show (nI (zOfW y (nI w743) k811) : Int32) = nI (zOfW y (nI w743) (k811 + 1)) from by first | exact can_0 (Or.inl cq830) Iff.rfl | exact can_0 (Or.inr cq843) Iff.rfl | exact ow_0c cq830 | exact ow_0d cq843 | exact ow_1 cq830 cq843 | exact can_f cq851 | exact can_1 cq851 cq830 cq843 (by first | (rw [lPt_1 (by omega), ← sub_pt1]; exact cq890) | (rw [lPt_0 (by omega), ← sub_pt0]; exact cq890)) | exact can_2 cq830 cq843 (by first | (rw [lPt_1 (by omega), ← sub_pt1]; exact cq890) | (rw [lPt_0 (by omega), ← sub_pt0]; exact cq890)))) ?_
                                exact ih811 (k811 + 1) (by omega) (by omega)
                      refine G.castL (lv' := [(16, .int (nI w743)), (15, .int (nI (1 + r246))), (0, .ref x), (1, .int u0), (2, .int v0), (3, .ref (x + 194)), (4, .ref (x + 195)), (5, .ref (x + 196)), (6, .ref (x + 197)), (7, .ref (x + 198)), (8, .ref (x + 199)), (9, .int (nI r3)), (10, .int (-1000002)), (11, .int (-1000001)), (12, .int (nI r195)), (13, .int (y (10 * r195 + 2))), (14, .int (zBal y r195)), (17, .int (nI (zOfW y (nI w743) N))), (18, .int 1), (19, .int 0), (20, .int 0)]) [3, 4, 5, 6, 7, 8, 9, 10, 11, 12, 13, 14, 15, 16, 17, 18, 19, 20, 2, 1, 0] rfl ?_
                      refine G.lv0 (lv2 := [(16, .int (nI w743)), (15, .int (nI (1 + r246))), (0, .ref x), (1, .int u0), (2, .int v0), (3, .ref (x + 194)), (4, .ref (x + 195)), (5, .ref (x + 196)), (6, .ref (x + 197)), (7, .ref (x + 198)), (8, .ref (x + 199)), (9, .int (nI r3)), (10, .int (-1000002)), (11, .int (-1000001)), (12, .int (nI r195)), (13, .int (y (10 * r195 + 2))), (14, .int (zBal y r195)), (17, .int (nI (zOfW y (nI w743) N))), (18, .int (b2 (lCan y N w743 (1 + r246) 0 = true))), (19, .int 0), (20, .int 0)]) (congrArg (fun q9 => ([(16, .int (nI w743)), (15, .int (nI (1 + r246))), (0, .ref x), (1, .int u0), (2, .int v0), (3, .ref (x + 194)), (4, .ref (x + 195)), (5, .ref (x + 196)), (6, .ref (x + 197)), (7, .ref (x + 198)), (8, .ref (x + 199)), (9, .int (nI r3)), (10, .int (-1000002)), (11, .int (-1000001)), (12, .int (nI r195)), (13, .int (y (10 * r195 + 2))), (14, .int (zBal y r195)), (17, .int (nI (zOfW y (nI w743) N))), (18, .int q9), (19, .int 0), (20, .int 0)] : List (Nat × Value))) (show (1 : Int32) = b2 (lCan y N w743 (1 + r246) 0 = true) from by first | rfl | exact (b2_t rfl).symm)) ?_
                      refine G.lv0 (lv2 := [(16, .int (nI w743)), (15, .int (nI (1 + r246))), (0, .ref x), (1, .int u0), (2, .int v0), (3, .ref (x + 194)), (4, .ref (x + 195)), (5, .ref (x + 196)), (6, .ref (x + 197)), (7, .ref (x + 198)), (8, .ref (x + 199)), (9, .int (nI r3)), (10, .int (-1000002)), (11, .int (-1000001)), (12, .int (nI r195)), (13, .int (y (10 * r195 + 2))), (14, .int (zBal y r195)), (17, .int (nI (zOfW y (nI w743) N))), (18, .int (b2 (lCan y N w743 (1 + r246) 0 = true))), (19, .int (nI (zOfW y (nI w743) 0))), (20, .int 0)]) (congrArg (fun q9 => ([(16, .int (nI w743)), (15, .int (nI (1 + r246))), (0, .ref x), (1, .int u0), (2, .int v0), (3, .ref (x + 194)), (4, .ref (x + 195)), (5, .ref (x + 196)), (6, .ref (x + 197)), (7, .ref (x + 198)), (8, .ref (x + 199)), (9, .int (nI r3)), (10, .int (-1000002)), (11, .int (-1000001)), (12, .int (nI r195)), (13, .int (y (10 * r195 + 2))), (14, .int (zBal y r195)), (17, .int (nI (zOfW y (nI w743) N))), (18, .int (b2 (lCan y N w743 (1 + r246) 0 = true))), (19, .int q9), (20, .int 0)] : List (Nat × Value))) (show (0 : Int32) = nI (zOfW y (nI w743) 0) from by first | rfl | exact (b2_t rfl).symm)) ?_
                      refine G.lv0 (lv2 := [(16, .int (nI w743)), (15, .int (nI (1 + r246))), (0, .ref x), (1, .int u0), (2, .int v0), (3, .ref (x + 194)), (4, .ref (x + 195)), (5, .ref (x + 196)), (6, .ref (x + 197)), (7, .ref (x + 198)), (8, .ref (x + 199)), (9, .int (nI r3)), (10, .int (-1000002)), (11, .int (-1000001)), (12, .int (nI r195)), (13, .int (y (10 * r195 + 2))), (14, .int (zBal y r195)), (17, .int (nI (zOfW y (nI w743) N))), (18, .int (b2 (lCan y N w743 (1 + r246) 0 = true))), (19, .int (nI (zOfW y (nI w743) 0))), (20, .int (nI 0))]) (congrArg (fun q9 => ([(16, .int (nI w743)), (15, .int (nI (1 + r246))), (0, .ref x), (1, .int u0), (2, .int v0), (3, .ref (x + 194)), (4, .ref (x + 195)), (5, .ref (x + 196)), (6, .ref (x + 197)), (7, .ref (x + 198)), (8, .ref (x + 199)), (9, .int (nI r3)), (10, .int (-1000002)), (11, .int (-1000001)), (12, .int (nI r195)), (13, .int (y (10 * r195 + 2))), (14, .int (zBal y r195)), (17, .int (nI (zOfW y (nI w743) N))), (18, .int (b2 (lCan y N w743 (1 + r246) 0 = true))), (19, .int (nI (zOfW y (nI w743) 0))), (20, .int q9)] : List (Nat × Value))) (show (0 : Int32) = nI 0 from by first | rfl | exact (b2_t rfl).symm)) ?_
                      exact L811_8 (N + 1) 0 (by omega) (by omega)
                    · skip
                      have nq759 := Nat.not_le.mpr cq759
                      refine G.iload (pc := 762) cx dL_people_762 18 rfl ?_
                      refine G.aload (pc := 764) cx dL_people_764 7 rfl ?_
                      refine G.iconst (pc := 766) cx dL_people_766 (v := 3) (by decide) ?_
                      refine G.iload (pc := 767) cx dL_people_767 19 rfl ?_
                      refine G.imulN (pc := 769) cx dL_people_769 3 k754 ?_
                      refine G.iconst (pc := 770) cx dL_people_770 (v := 1) (by decide) ?_
                      refine G.iaddN (pc := 771) cx dL_people_771 (3 * k754) 1 ?_
                      refine G.ialdV (pc := 772) cx dL_people_772 xl_a (j := ((3 * k754) + 1)) rfl (by omega) (by decide) (xr_a (n := 10 * k754 + 1) (by omega) (by omega)) ?_
                      refine G.iload (pc := 773) cx dL_people_773 1 rfl ?_
                      refine G.icmp_ne (pc := 775) cx dL_people_775 (tgt := 795) (by decide) (fun cq775 => ?_) (fun cq775 => ?_)
                      · skip
                        refine G.iconst (pc := 795) cx dL_people_795 (v := 0) (by decide) ?_
                        refine G.iaddN (pc := 796) cx dL_people_796 (zOfW y (nI w743) k754) 0 ?_
                        refine G.istore (pc := 797) cx dL_people_797 (by decide) rfl ?_
                        refine G.iinc (pc := 799) cx dL_people_799 (v := nI (k754 + 1)) (k := 19) rfl (nI_add k754 1) (by decide) rfl ?_
                        refine G.goto (pc := 802) cx dL_people_802 (tgt := 754) (by decide) ?_
                        refine G.castL (lv' := [(18, .int 1), (16, .int (nI w743)), (15, .int (nI (1 + r246))), (0, .ref x), (1, .int u0), (2, .int v0), (3, .ref (x + 194)), (4, .ref (x + 195)), (5, .ref (x + 196)), (6, .ref (x + 197)), (7, .ref (x + 198)), (8, .ref (x + 199)), (9, .int (nI r3)), (10, .int (-1000002)), (11, .int (-1000001)), (12, .int (nI r195)), (13, .int (y (10 * r195 + 2))), (14, .int (zBal y r195)), (17, .int (nI ((zOfW y (nI w743) k754) + 0))), (19, .int (nI (k754 + 1)))]) [2, 3, 4, 5, 6, 7, 8, 9, 10, 11, 12, 13, 14, 15, 16, 17, 18, 19, 1, 0] rfl ?_
                        refine G.lv0 (lv2 := [(18, .int 1), (16, .int (nI w743)), (15, .int (nI (1 + r246))), (0, .ref x), (1, .int u0), (2, .int v0), (3, .ref (x + 194)), (4, .ref (x + 195)), (5, .ref (x + 196)), (6, .ref (x + 197)), (7, .ref (x + 198)), (8, .ref (x + 199)), (9, .int (nI r3)), (10, .int (-1000002)), (11, .int (-1000001)), (12, .int (nI r195)), (13, .int (y (10 * r195 + 2))), (14, .int (zBal y r195)), (17, .int (nI (zOfW y (nI w743) (k754 + 1)))), (19, .int (nI (k754 + 1)))]) (congrArg (fun q9 => ([(18, .int 1), (16, .int (nI w743)), (15, .int (nI (1 + r246))), (0, .ref x), (1, .int u0), (2, .int v0), (3, .ref (x + 194)), (4, .ref (x + 195)), (5, .ref (x + 196)), (6, .ref (x + 197)), (7, .ref (x + 198)), (8, .ref (x + 199)), (9, .int (nI r3)), (10, .int (-1000002)), (11, .int (-1000001)), (12, .int (nI r195)), (13, .int (y (10 * r195 + 2))), (14, .int (zBal y r195)), (17, .int q9), (19, .int (nI (k754 + 1)))] : List (Nat × Value))) (show (nI ((zOfW y (nI w743) k754) + 0) : Int32) = nI (zOfW y (nI w743) (k754 + 1)) from by first | exact ow_1 cq775 ((wh_lt hI (by omega)).mp nq788) | exact ow_0a cq775 | exact ow_0b (nn (mt (wh_lt hI (by omega)).mpr nq788)))) ?_
                        exact ih754 (k754 + 1) (by omega) (by omega)
                      · skip
                        refine G.aload (pc := 778) cx dL_people_778 7 rfl ?_
                        refine G.iconst (pc := 780) cx dL_people_780 (v := 3) (by decide) ?_
                        refine G.iload (pc := 781) cx dL_people_781 19 rfl ?_
                        refine G.imulN (pc := 783) cx dL_people_783 3 k754 ?_
                        refine G.iconst (pc := 784) cx dL_people_784 (v := 2) (by decide) ?_
                        refine G.iaddN (pc := 785) cx dL_people_785 (3 * k754) 2 ?_
                        refine G.ialdV (pc := 786) cx dL_people_786 xl_a (j := ((3 * k754) + 2)) rfl (by omega) (by decide) (xr_a (n := 10 * k754 + 2) (by omega) (by omega)) ?_
                        refine G.iconst (pc := 787) cx dL_people_787 (v := 2) (by decide) ?_
                        refine G.icmp_ge (pc := 788) cx dL_people_788 (tgt := 795) (by decide) (fun cq788 => ?_) (fun cq788 => ?_)
                        · skip
                          have nq788 := Int32.not_lt.mpr cq788
                          refine G.iconst (pc := 795) cx dL_people_795 (v := 0) (by decide) ?_
                          refine G.iaddN (pc := 796) cx dL_people_796 (zOfW y (nI w743) k754) 0 ?_
                          refine G.istore (pc := 797) cx dL_people_797 (by decide) rfl ?_
                          refine G.iinc (pc := 799) cx dL_people_799 (v := nI (k754 + 1)) (k := 19) rfl (nI_add k754 1) (by decide) rfl ?_
                          refine G.goto (pc := 802) cx dL_people_802 (tgt := 754) (by decide) ?_
                          refine G.castL (lv' := [(18, .int 1), (16, .int (nI w743)), (15, .int (nI (1 + r246))), (0, .ref x), (1, .int u0), (2, .int v0), (3, .ref (x + 194)), (4, .ref (x + 195)), (5, .ref (x + 196)), (6, .ref (x + 197)), (7, .ref (x + 198)), (8, .ref (x + 199)), (9, .int (nI r3)), (10, .int (-1000002)), (11, .int (-1000001)), (12, .int (nI r195)), (13, .int (y (10 * r195 + 2))), (14, .int (zBal y r195)), (17, .int (nI ((zOfW y (nI w743) k754) + 0))), (19, .int (nI (k754 + 1)))]) [2, 3, 4, 5, 6, 7, 8, 9, 10, 11, 12, 13, 14, 15, 16, 17, 18, 19, 1, 0] rfl ?_
                          refine G.lv0 (lv2 := [(18, .int 1), (16, .int (nI w743)), (15, .int (nI (1 + r246))), (0, .ref x), (1, .int u0), (2, .int v0), (3, .ref (x + 194)), (4, .ref (x + 195)), (5, .ref (x + 196)), (6, .ref (x + 197)), (7, .ref (x + 198)), (8, .ref (x + 199)), (9, .int (nI r3)), (10, .int (-1000002)), (11, .int (-1000001)), (12, .int (nI r195)), (13, .int (y (10 * r195 + 2))), (14, .int (zBal y r195)), (17, .int (nI (zOfW y (nI w743) (k754 + 1)))), (19, .int (nI (k754 + 1)))]) (congrArg (fun q9 => ([(18, .int 1), (16, .int (nI w743)), (15, .int (nI (1 + r246))), (0, .ref x), (1, .int u0), (2, .int v0), (3, .ref (x + 194)), (4, .ref (x + 195)), (5, .ref (x + 196)), (6, .ref (x + 197)), (7, .ref (x + 198)), (8, .ref (x + 199)), (9, .int (nI r3)), (10, .int (-1000002)), (11, .int (-1000001)), (12, .int (nI r195)), (13, .int (y (10 * r195 + 2))), (14, .int (zBal y r195)), (17, .int q9), (19, .int (nI (k754 + 1)))] : List (Nat × Value))) (show (nI ((zOfW y (nI w743) k754) + 0) : Int32) = nI (zOfW y (nI w743) (k754 + 1)) from by first | exact ow_1 cq775 ((wh_lt hI (by omega)).mp nq788) | exact ow_0a cq775 | exact ow_0b (nn (mt (wh_lt hI (by omega)).mpr nq788)))) ?_
                          exact ih754 (k754 + 1) (by omega) (by omega)
                        · skip
                          have nq788 := Int32.not_le.mp cq788
                          refine G.iconst (pc := 791) cx dL_people_791 (v := 1) (by decide) ?_
                          refine G.goto (pc := 792) cx dL_people_792 (tgt := 796) (by decide) ?_
                          refine G.iaddN (pc := 796) cx dL_people_796 (zOfW y (nI w743) k754) 1 ?_
                          refine G.istore (pc := 797) cx dL_people_797 (by decide) rfl ?_
                          refine G.iinc (pc := 799) cx dL_people_799 (v := nI (k754 + 1)) (k := 19) rfl (nI_add k754 1) (by decide) rfl ?_
                          refine G.goto (pc := 802) cx dL_people_802 (tgt := 754) (by decide) ?_
                          refine G.castL (lv' := [(18, .int 1), (16, .int (nI w743)), (15, .int (nI (1 + r246))), (0, .ref x), (1, .int u0), (2, .int v0), (3, .ref (x + 194)), (4, .ref (x + 195)), (5, .ref (x + 196)), (6, .ref (x + 197)), (7, .ref (x + 198)), (8, .ref (x + 199)), (9, .int (nI r3)), (10, .int (-1000002)), (11, .int (-1000001)), (12, .int (nI r195)), (13, .int (y (10 * r195 + 2))), (14, .int (zBal y r195)), (17, .int (nI ((zOfW y (nI w743) k754) + 1))), (19, .int (nI (k754 + 1)))]) [2, 3, 4, 5, 6, 7, 8, 9, 10, 11, 12, 13, 14, 15, 16, 17, 18, 19, 1, 0] rfl ?_
                          refine G.lv0 (lv2 := [(18, .int 1), (16, .int (nI w743)), (15, .int (nI (1 + r246))), (0, .ref x), (1, .int u0), (2, .int v0), (3, .ref (x + 194)), (4, .ref (x + 195)), (5, .ref (x + 196)), (6, .ref (x + 197)), (7, .ref (x + 198)), (8, .ref (x + 199)), (9, .int (nI r3)), (10, .int (-1000002)), (11, .int (-1000001)), (12, .int (nI r195)), (13, .int (y (10 * r195 + 2))), (14, .int (zBal y r195)), (17, .int (nI (zOfW y (nI w743) (k754 + 1)))), (19, .int (nI (k754 + 1)))]) (congrArg (fun q9 => ([(18, .int 1), (16, .int (nI w743)), (15, .int (nI (1 + r246))), (0, .ref x), (1, .int u0), (2, .int v0), (3, .ref (x + 194)), (4, .ref (x + 195)), (5, .ref (x + 196)), (6, .ref (x + 197)), (7, .ref (x + 198)), (8, .ref (x + 199)), (9, .int (nI r3)), (10, .int (-1000002)), (11, .int (-1000001)), (12, .int (nI r195)), (13, .int (y (10 * r195 + 2))), (14, .int (zBal y r195)), (17, .int q9), (19, .int (nI (k754 + 1)))] : List (Nat × Value))) (show (nI ((zOfW y (nI w743) k754) + 1) : Int32) = nI (zOfW y (nI w743) (k754 + 1)) from by first | exact ow_1 cq775 ((wh_lt hI (by omega)).mp nq788) | exact ow_0a cq775 | exact ow_0b (nn (mt (wh_lt hI (by omega)).mpr nq788)))) ?_
                          exact ih754 (k754 + 1) (by omega) (by omega)
                refine G.castL (lv' := [(18, .int 1), (16, .int (nI w743)), (15, .int (nI (1 + r246))), (0, .ref x), (1, .int u0), (2, .int v0), (3, .ref (x + 194)), (4, .ref (x + 195)), (5, .ref (x + 196)), (6, .ref (x + 197)), (7, .ref (x + 198)), (8, .ref (x + 199)), (9, .int (nI r3)), (10, .int (-1000002)), (11, .int (-1000001)), (12, .int (nI r195)), (13, .int (y (10 * r195 + 2))), (14, .int (zBal y r195)), (17, .int 0), (19, .int 0)]) [1, 3, 4, 5, 6, 7, 8, 9, 10, 11, 12, 13, 14, 15, 16, 17, 18, 19, 2, 0] rfl ?_
                refine G.lv0 (lv2 := [(18, .int 1), (16, .int (nI w743)), (15, .int (nI (1 + r246))), (0, .ref x), (1, .int u0), (2, .int v0), (3, .ref (x + 194)), (4, .ref (x + 195)), (5, .ref (x + 196)), (6, .ref (x + 197)), (7, .ref (x + 198)), (8, .ref (x + 199)), (9, .int (nI r3)), (10, .int (-1000002)), (11, .int (-1000001)), (12, .int (nI r195)), (13, .int (y (10 * r195 + 2))), (14, .int (zBal y r195)), (17, .int (nI (zOfW y (nI w743) 0))), (19, .int 0)]) (congrArg (fun q9 => ([(18, .int 1), (16, .int (nI w743)), (15, .int (nI (1 + r246))), (0, .ref x), (1, .int u0), (2, .int v0), (3, .ref (x + 194)), (4, .ref (x + 195)), (5, .ref (x + 196)), (6, .ref (x + 197)), (7, .ref (x + 198)), (8, .ref (x + 199)), (9, .int (nI r3)), (10, .int (-1000002)), (11, .int (-1000001)), (12, .int (nI r195)), (13, .int (y (10 * r195 + 2))), (14, .int (zBal y r195)), (17, .int q9), (19, .int 0)] : List (Nat × Value))) (show (0 : Int32) = nI (zOfW y (nI w743) 0) from by rfl)) ?_
                refine G.lv0 (lv2 := [(18, .int 1), (16, .int (nI w743)), (15, .int (nI (1 + r246))), (0, .ref x), (1, .int u0), (2, .int v0), (3, .ref (x + 194)), (4, .ref (x + 195)), (5, .ref (x + 196)), (6, .ref (x + 197)), (7, .ref (x + 198)), (8, .ref (x + 199)), (9, .int (nI r3)), (10, .int (-1000002)), (11, .int (-1000001)), (12, .int (nI r195)), (13, .int (y (10 * r195 + 2))), (14, .int (zBal y r195)), (17, .int (nI (zOfW y (nI w743) 0))), (19, .int (nI 0))]) (congrArg (fun q9 => ([(18, .int 1), (16, .int (nI w743)), (15, .int (nI (1 + r246))), (0, .ref x), (1, .int u0), (2, .int v0), (3, .ref (x + 194)), (4, .ref (x + 195)), (5, .ref (x + 196)), (6, .ref (x + 197)), (7, .ref (x + 198)), (8, .ref (x + 199)), (9, .int (nI r3)), (10, .int (-1000002)), (11, .int (-1000001)), (12, .int (nI r195)), (13, .int (y (10 * r195 + 2))), (14, .int (zBal y r195)), (17, .int (nI (zOfW y (nI w743) 0))), (19, .int q9)] : List (Nat × Value))) (show (0 : Int32) = nI 0 from by rfl)) ?_
                exact L754_7 (N + 1) 0 (by omega) (by omega)
            · skip
              have J660_11 : (y (10 * r195 + 2) = 2 ∨ zBal y r195 - nI (1 + r246) < -4000) → G K p9 l e9 (rmL 7 0 0) s9 m9 a9 b9 t9 c9 (MQ b9 (QCp K (PoL K x V B) sz) a9 s9 0 0 (kA K)) 21 (xwL K x y s y V) sz 0 0 660 [(0, .ref x), (1, .int u0), (2, .int v0), (3, .ref (x + 194)), (4, .ref (x + 195)), (5, .ref (x + 196)), (6, .ref (x + 197)), (7, .ref (x + 198)), (8, .ref (x + 199)), (9, .int (nI r3)), (10, .int (-1000002)), (11, .int (-1000001)), (12, .int (nI r195)), (13, .int (y (10 * r195 + 2))), (14, .int (zBal y r195)), (15, .int (nI (1 + r246)))] [] := by
                intro hor660
                refine G.aload_n (pc := 660) cx dL_people_660 rfl 0 rfl ?_
                refine G.iload (pc := 661) cx dL_people_661 12 rfl ?_
                refine G.iload (pc := 663) cx dL_people_663 15 rfl ?_
                obtain ⟨s665, hs665, hc665⟩ := k_no (c := -1000002) (k_fine (l := l) (K := K) (sz := sz) (x := x) (y := y) (V := V) hI hS (nI r195) (nI (1 + r246))) (by exact no_fine hI (by omega) (by omega) (by omega) hor660) (by first | decide | (split <;> decide))
                refine G.callVg (pc := 665) (rest := []) (st1 := [.int (-1000002)]) cx hc665 ok_X9_fine dL_people_665 wm_ml_L_56 rfl xw_o rfl (Nat.le_of_ble_eq_true rfl) ⟨Nat.le_of_ble_eq_true rfl, Nat.le_of_ble_eq_true rfl⟩ ⟨Nat.le_of_ble_eq_true rfl, Nat.le_of_ble_eq_true rfl⟩ rfl ?_
                refine G.iload (pc := 668) cx dL_people_668 10 rfl ?_
                refine G.icmp_ne (pc := 670) cx dL_people_670 (tgt := 691) (by decide) (fun h9 => absurd rfl h9) (fun _ => ?_)
                refine G.aload_n (pc := 673) cx dL_people_673 rfl 0 rfl ?_
                refine G.iload (pc := 674) cx dL_people_674 12 rfl ?_
                refine G.sipush (pc := 676) cx dL_people_676 (v := 1000) (by decide) ?_
                obtain ⟨s679, hs679, hc679⟩ := k_no (c := -1000001) (k_fine (l := l) (K := K) (sz := sz) (x := x) (y := y) (V := V) hI hs665 (nI r195) 1000) (by exact bad_fine _ _) (by first | decide | (split <;> decide))
                refine G.callVg (pc := 679) (rest := []) (st1 := [.int (-1000001)]) cx hc679 ok_X9_fine dL_people_679 wm_ml_L_56 rfl xw_o rfl (Nat.le_of_ble_eq_true rfl) ⟨Nat.le_of_ble_eq_true rfl, Nat.le_of_ble_eq_true rfl⟩ ⟨Nat.le_of_ble_eq_true rfl, Nat.le_of_ble_eq_true rfl⟩ rfl ?_
                refine G.iload (pc := 682) cx dL_people_682 11 rfl ?_
                refine G.icmp_ne (pc := 684) cx dL_people_684 (tgt := 691) (by decide) (fun h9 => absurd rfl h9) (fun _ => ?_)
                refine G.iconst (pc := 687) cx dL_people_687 (v := 1) (by decide) ?_
                refine G.goto (pc := 688) cx dL_people_688 (tgt := 692) (by decide) ?_
                refine G.zretP (pc := 692) cx rfl dL_people_692 rfl ?_
                exact ⟨rfl, _, _, _, rfl, hs679, hI.B (Nat.le_succ B)⟩
              refine G.iload (pc := 643) cx dL_people_643 14 rfl ?_
              refine G.iconst (pc := 645) cx dL_people_645 (v := 2) (by decide) ?_
              refine G.icmp_eq (pc := 646) cx dL_people_646 (tgt := 660) (by decide) (fun cq646 => ?_) (fun cq646 => ?_)
              · skip
                refine G.castL (lv' := [(0, .ref x), (1, .int u0), (2, .int v0), (3, .ref (x + 194)), (4, .ref (x + 195)), (5, .ref (x + 196)), (6, .ref (x + 197)), (7, .ref (x + 198)), (8, .ref (x + 199)), (9, .int (nI r3)), (10, .int (-1000002)), (11, .int (-1000001)), (12, .int (nI r195)), (13, .int (y (10 * r195 + 2))), (14, .int (zBal y r195)), (15, .int (nI (1 + r246)))]) [1, 2, 3, 4, 5, 6, 7, 8, 9, 10, 11, 12, 13, 14, 15, 0] rfl ?_
                exact J660_11 (by first | exact Or.inl cq646 | exact Or.inr nq657)
              · skip
                refine G.iload (pc := 649) cx dL_people_649 15 rfl ?_
                refine G.iload (pc := 651) cx dL_people_651 0 rfl ?_
                refine G.isub (pc := 653) cx dL_people_653 ?_
                refine G.sipush (pc := 654) cx dL_people_654 (v := (-4000)) (by decide) ?_
                refine G.icmp_ge (pc := 657) cx dL_people_657 (tgt := 693) (by decide) (fun cq657 => ?_) (fun cq657 => ?_)
                · skip
                  have nq657 := Int32.not_lt.mpr cq657
                  refine G.aload_n (pc := 693) cx dL_people_693 rfl 4 rfl ?_
                  refine G.aload (pc := 694) cx dL_people_694 7 rfl ?_
                  refine G.aload (pc := 696) cx dL_people_696 9 rfl ?_
                  refine G.iload (pc := 698) cx dL_people_698 13 rfl ?_
                  refine G.iload (pc := 700) cx dL_people_700 0 rfl ?_
                  refine G.callSg (pc := 702) (rest := []) (st1 := []) cx (c_L_fine l K sz x y s y V r195 (nI (1 + r246)) E (by omega) (by first | exact hE | (rw [upd_n _ _ (by omega)]; exact hE) | (rw [upd_n _ _ (by omega), upd_n _ _ (by omega)]; exact hE) | (rw [upd_n _ _ (by omega), upd_n _ _ (by omega), upd_n _ _ (by omega)]; exact hE) | (rw [upd_n _ _ (by omega), upd_n _ _ (by omega), upd_n _ _ (by omega), upd_n _ _ (by omega)]; exact hE) | (rw [upd_n _ _ (by omega), upd_n _ _ (by omega), upd_n _ _ (by omega), upd_n _ _ (by omega), upd_n _ _ (by omega)]; exact hE) | (rw [upd_n _ _ (by omega), upd_n _ _ (by omega), upd_n _ _ (by omega), upd_n _ _ (by omega), upd_n _ _ (by omega), upd_n _ _ (by omega)]; exact hE)) (by omega)) ok_L_fine dL_people_702 wm_ml_L_59 rfl rfl (Nat.le_of_ble_eq_true rfl) ⟨Nat.le_of_ble_eq_true rfl, Nat.le_of_ble_eq_true rfl⟩ ⟨Nat.le_of_ble_eq_true rfl, Nat.le_of_ble_eq_true rfl⟩ rfl ?_
                  refine G.aload_n (pc := 705) cx dL_people_705 rfl 1 rfl ?_
                  refine G.iload (pc := 706) cx dL_people_706 13 rfl ?_
                  refine G.iload (pc := 708) cx dL_people_708 0 rfl ?_
                  obtain ⟨s710, hs710, hc710, M710, hi710⟩ := k_yes (v := (5000 + (zBal y r195)) - (nI (1 + r246))) (D2 := zFn y r195 (nI (1 + r246))) (k_fine (l := l) (K := K) (sz := sz) (x := x) (y := (zFn y r195 (nI (1 + r246)))) (V := V) hI hS (nI r195) (nI (1 + r246))) (by exact yes_fine hI (by omega) (by omega) (by omega) (fun q => q.elim cq646 nq657)) (by exact ans_fine hI (by omega) cq646 _) (by exact do_fine hI (by omega) _)
                  refine G.callVg (pc := 710) (rest := []) (st1 := [.int ((5000 + (zBal y r195)) - (nI (1 + r246)))]) cx hc710 ok_X9_fine dL_people_710 wm_ml_L_56 rfl xw_o rfl (Nat.le_of_ble_eq_true rfl) ⟨Nat.le_of_ble_eq_true rfl, Nat.le_of_ble_eq_true rfl⟩ ⟨Nat.le_of_ble_eq_true rfl, Nat.le_of_ble_eq_true rfl⟩ rfl ?_
                  refine G.sipush (pc := 713) cx dL_people_713 (v := 5000) (by decide) ?_
                  refine G.iload (pc := 716) cx dL_people_716 15 rfl ?_
                  refine G.iadd (pc := 718) cx dL_people_718 ?_
                  refine G.iload (pc := 719) cx dL_people_719 0 rfl ?_
                  refine G.isub (pc := 721) cx dL_people_721 ?_
                  refine G.icmp_ne (pc := 722) cx dL_people_722 (tgt := 729) (by decide) (fun h9 => absurd rfl h9) (fun _ => ?_)
                  refine G.iconst (pc := 725) cx dL_people_725 (v := 1) (by decide) ?_
                  refine G.goto (pc := 726) cx dL_people_726 (tgt := 730) (by decide) ?_
                  refine G.zretP (pc := 730) cx rfl dL_people_730 rfl ?_
                  exact ⟨rfl, _, _, _, rfl, hs710, hi710⟩
                · skip
                  have nq657 := Int32.not_le.mp cq657
                  refine G.castL (lv' := [(0, .ref x), (1, .int u0), (2, .int v0), (3, .ref (x + 194)), (4, .ref (x + 195)), (5, .ref (x + 196)), (6, .ref (x + 197)), (7, .ref (x + 198)), (8, .ref (x + 199)), (9, .int (nI r3)), (10, .int (-1000002)), (11, .int (-1000001)), (12, .int (nI r195)), (13, .int (y (10 * r195 + 2))), (14, .int (zBal y r195)), (15, .int (nI (1 + r246)))]) [1, 2, 3, 4, 5, 6, 7, 8, 9, 10, 11, 12, 13, 14, 15, 0] rfl ?_
                  exact J660_11 (by first | exact Or.inl cq646 | exact Or.inr nq657)
          · skip
            have J534_12 : (S = 1 ∨ y (10 * r195 + 2) = 2 ∨ zBal y r195 < nI (1 + r246)) → G K p9 l e9 (rmL 7 0 0) s9 m9 a9 b9 t9 c9 (MQ b9 (QCp K (PoL K x V B) sz) a9 s9 0 0 (kA K)) 21 (xwL K x y s y V) sz 0 0 534 [(0, .ref x), (1, .int u0), (2, .int v0), (3, .ref (x + 194)), (4, .ref (x + 195)), (5, .ref (x + 196)), (6, .ref (x + 197)), (7, .ref (x + 198)), (8, .ref (x + 199)), (9, .int (nI r3)), (10, .int (-1000002)), (11, .int (-1000001)), (12, .int (nI r195)), (13, .int (y (10 * r195 + 2))), (14, .int (zBal y r195)), (15, .int (nI (1 + r246)))] [] := by
              intro hor534
              refine G.aload_n (pc := 534) cx dL_people_534 rfl 0 rfl ?_
              refine G.iload (pc := 535) cx dL_people_535 12 rfl ?_
              refine G.iload (pc := 537) cx dL_people_537 15 rfl ?_
              obtain ⟨s539, hs539, hc539⟩ := k_no (c := -1000002) (k_advance (l := l) (K := K) (sz := sz) (x := x) (y := y) (V := V) hI hS (nI r195) (nI (1 + r246))) (by exact no_adv hI (by omega) (by omega) (by omega) (hor534.imp (sea_nat hSe hS1).mpr id)) (by first | decide | (split <;> decide))
              refine G.callVg (pc := 539) (rest := []) (st1 := [.int (-1000002)]) cx hc539 ok_X9_advance dL_people_539 wm_ml_L_53 rfl xw_o rfl (Nat.le_of_ble_eq_true rfl) ⟨Nat.le_of_ble_eq_true rfl, Nat.le_of_ble_eq_true rfl⟩ ⟨Nat.le_of_ble_eq_true rfl, Nat.le_of_ble_eq_true rfl⟩ rfl ?_
              refine G.iload (pc := 542) cx dL_people_542 10 rfl ?_
              refine G.icmp_ne (pc := 544) cx dL_people_544 (tgt := 574) (by decide) (fun h9 => absurd rfl h9) (fun _ => ?_)
              refine G.aload_n (pc := 547) cx dL_people_547 rfl 0 rfl ?_
              refine G.iload (pc := 548) cx dL_people_548 12 rfl ?_
              refine G.iconst (pc := 550) cx dL_people_550 (v := 0) (by decide) ?_
              obtain ⟨s551, hs551, hc551⟩ := k_no (c := -1000001) (k_advance (l := l) (K := K) (sz := sz) (x := x) (y := y) (V := V) hI hs539 (nI r195) 0) (by exact bad_adv0 _ _) (by first | decide | (split <;> decide))
              refine G.callVg (pc := 551) (rest := []) (st1 := [.int (-1000001)]) cx hc551 ok_X9_advance dL_people_551 wm_ml_L_53 rfl xw_o rfl (Nat.le_of_ble_eq_true rfl) ⟨Nat.le_of_ble_eq_true rfl, Nat.le_of_ble_eq_true rfl⟩ ⟨Nat.le_of_ble_eq_true rfl, Nat.le_of_ble_eq_true rfl⟩ rfl ?_
              refine G.iload (pc := 554) cx dL_people_554 11 rfl ?_
              refine G.icmp_ne (pc := 556) cx dL_people_556 (tgt := 574) (by decide) (fun h9 => absurd rfl h9) (fun _ => ?_)
              refine G.aload_n (pc := 559) cx dL_people_559 rfl 0 rfl ?_
              refine G.iconst (pc := 560) cx dL_people_560 (v := (-1)) (by decide) ?_
              refine G.iconst (pc := 561) cx dL_people_561 (v := 5) (by decide) ?_
              obtain ⟨s562, hs562, hc562⟩ := k_no (c := -1000001) (k_advance (l := l) (K := K) (sz := sz) (x := x) (y := y) (V := V) hI hs551 (-1) 5) (by exact bad_advm _ _) (by first | decide | (split <;> decide))
              refine G.callVg (pc := 562) (rest := []) (st1 := [.int (-1000001)]) cx hc562 ok_X9_advance dL_people_562 wm_ml_L_53 rfl xw_o rfl (Nat.le_of_ble_eq_true rfl) ⟨Nat.le_of_ble_eq_true rfl, Nat.le_of_ble_eq_true rfl⟩ ⟨Nat.le_of_ble_eq_true rfl, Nat.le_of_ble_eq_true rfl⟩ rfl ?_
              refine G.iload (pc := 565) cx dL_people_565 11 rfl ?_
              refine G.icmp_ne (pc := 567) cx dL_people_567 (tgt := 574) (by decide) (fun h9 => absurd rfl h9) (fun _ => ?_)
              refine G.iconst (pc := 570) cx dL_people_570 (v := 1) (by decide) ?_
              refine G.goto (pc := 571) cx dL_people_571 (tgt := 575) (by decide) ?_
              refine G.zretP (pc := 575) cx rfl dL_people_575 rfl ?_
              exact ⟨rfl, _, _, _, rfl, hs562, hI.B (Nat.le_succ B)⟩
            refine G.aload_n (pc := 514) cx dL_people_514 rfl 4 rfl ?_
            refine G.iconst (pc := 515) cx dL_people_515 (v := 1) (by decide) ?_
            refine G.ialdV (pc := 516) cx dL_people_516 xl_g (j := 1) rfl (by omega) (by decide) ((xr_g (n := 191) (by omega) (by omega)).trans (hSe)) ?_
            refine G.iconst (pc := 517) cx dL_people_517 (v := 1) (by decide) ?_
            refine G.icmp_eqN (pc := 518) cx S 1 (by omega) (by omega) dL_people_518 (tgt := 534) (by decide) (fun cq518 => ?_) (fun cq518 => ?_)
            · skip
              refine G.castL (lv' := [(0, .ref x), (1, .int u0), (2, .int v0), (3, .ref (x + 194)), (4, .ref (x + 195)), (5, .ref (x + 196)), (6, .ref (x + 197)), (7, .ref (x + 198)), (8, .ref (x + 199)), (9, .int (nI r3)), (10, .int (-1000002)), (11, .int (-1000001)), (12, .int (nI r195)), (13, .int (y (10 * r195 + 2))), (14, .int (zBal y r195)), (15, .int (nI (1 + r246)))]) [1, 2, 3, 4, 5, 6, 7, 8, 9, 10, 11, 12, 13, 14, 15, 0] rfl ?_
              exact J534_12 (by first | exact Or.inl cq518 | exact Or.inr (Or.inl cq524) | exact Or.inr (Or.inr nq531))
            · skip
              refine G.iload (pc := 521) cx dL_people_521 14 rfl ?_
              refine G.iconst (pc := 523) cx dL_people_523 (v := 2) (by decide) ?_
              refine G.icmp_eq (pc := 524) cx dL_people_524 (tgt := 534) (by decide) (fun cq524 => ?_) (fun cq524 => ?_)
              · skip
                refine G.castL (lv' := [(0, .ref x), (1, .int u0), (2, .int v0), (3, .ref (x + 194)), (4, .ref (x + 195)), (5, .ref (x + 196)), (6, .ref (x + 197)), (7, .ref (x + 198)), (8, .ref (x + 199)), (9, .int (nI r3)), (10, .int (-1000002)), (11, .int (-1000001)), (12, .int (nI r195)), (13, .int (y (10 * r195 + 2))), (14, .int (zBal y r195)), (15, .int (nI (1 + r246)))]) [1, 2, 3, 4, 5, 6, 7, 8, 9, 10, 11, 12, 13, 14, 15, 0] rfl ?_
                exact J534_12 (by first | exact Or.inl cq518 | exact Or.inr (Or.inl cq524) | exact Or.inr (Or.inr nq531))
              · skip
                refine G.iload (pc := 527) cx dL_people_527 15 rfl ?_
                refine G.iload (pc := 529) cx dL_people_529 0 rfl ?_
                refine G.icmp_ge (pc := 531) cx dL_people_531 (tgt := 576) (by decide) (fun cq531 => ?_) (fun cq531 => ?_)
                · skip
                  have nq531 := Int32.not_lt.mpr cq531
                  refine G.aload (pc := 576) cx dL_people_576 7 rfl ?_
                  refine G.iconst (pc := 578) cx dL_people_578 (v := 3) (by decide) ?_
                  refine G.iload (pc := 579) cx dL_people_579 13 rfl ?_
                  refine G.imulN (pc := 581) cx dL_people_581 3 r195 ?_
                  refine G.iconst (pc := 582) cx dL_people_582 (v := 2) (by decide) ?_
                  refine G.iaddN (pc := 583) cx dL_people_583 (3 * r195) 2 ?_
                  refine G.dup2 (pc := 584) cx dL_people_584 rfl rfl ?_
                  refine G.ialdV (pc := 585) cx dL_people_585 xl_c (j := ((3 * r195) + 2)) rfl (by omega) (by decide) (xr_c (n := 10 * r195 + 7) (by omega) (by omega)) ?_
                  refine G.iload (pc := 586) cx dL_people_586 0 rfl ?_
                  refine G.iadd (pc := 588) cx dL_people_588 ?_
                  refine G.iastC (pc := 589) cx dL_people_589 xl_c (j := ((3 * r195) + 2)) rfl (by omega) (by decide) (xs_c (n := 10 * r195 + 7) (by omega) (by omega)) ?_
                  refine G.aload_n (pc := 590) cx dL_people_590 rfl 4 rfl ?_
                  refine G.bipush (pc := 591) cx dL_people_591 (v := 8) (by decide) ?_
                  refine G.dup2 (pc := 593) cx dL_people_593 rfl rfl ?_
                  refine G.ialdV (pc := 594) cx dL_people_594 xl_g (j := 8) rfl (by omega) (by decide) ((xr_g (n := 198) (by omega) (by omega)).trans (upd_n (i := 10 * r195 + 7) (j := 198) y ((y (10 * r195 + 7)) + (nI (1 + r246))) (by omega))) ?_
                  refine G.iload (pc := 595) cx dL_people_595 0 rfl ?_
                  refine G.iadd (pc := 597) cx dL_people_597 ?_
                  refine G.iastC (pc := 598) cx dL_people_598 xl_g (j := 8) rfl (by omega) (by decide) (xs_g (n := 198) (by omega) (by omega)) ?_
                  refine G.aload_n (pc := 599) cx dL_people_599 rfl 4 rfl ?_
                  refine G.iload (pc := 600) cx dL_people_600 0 rfl ?_
                  refine G.callSg (pc := 602) (rest := []) (st1 := []) cx (c_L_spend l K sz x y s (upd (upd y (10 * r195 + 7) ((y (10 * r195 + 7)) + (nI (1 + r246)))) 198 ((y 198) + (nI (1 + r246)))) V (nI (1 + r246))) ok_L_spend dL_people_602 wm_ml_L_19 rfl rfl (Nat.le_of_ble_eq_true rfl) ⟨Nat.le_of_ble_eq_true rfl, Nat.le_of_ble_eq_true rfl⟩ ⟨Nat.le_of_ble_eq_true rfl, Nat.le_of_ble_eq_true rfl⟩ rfl ?_
                  refine G.aload_n (pc := 605) cx dL_people_605 rfl 4 rfl ?_
                  refine G.aload (pc := 606) cx dL_people_606 9 rfl ?_
                  refine G.iload (pc := 608) cx dL_people_608 13 rfl ?_
                  refine G.iconst (pc := 610) cx dL_people_610 (v := 2) (by decide) ?_
                  refine G.iload (pc := 611) cx dL_people_611 0 rfl ?_
                  refine G.callSg (pc := 613) (rest := []) (st1 := []) cx (c_L_write l K sz x y s (zSpend (upd (upd y (10 * r195 + 7) ((y (10 * r195 + 7)) + (nI (1 + r246)))) 198 ((y 198) + (nI (1 + r246)))) (nI (1 + r246))) V (nI r195) 2 (nI (1 + r246)) E (by rw [zSpend_o _ _ (by omega) (by omega), upd_n _ _ (by omega), upd_n _ _ (by omega)]; exact hE) (by omega)) ok_L_write dL_people_613 wm_ml_L_15 rfl rfl (Nat.le_of_ble_eq_true rfl) ⟨Nat.le_of_ble_eq_true rfl, Nat.le_of_ble_eq_true rfl⟩ ⟨Nat.le_of_ble_eq_true rfl, Nat.le_of_ble_eq_true rfl⟩ rfl ?_
                  refine G.aload_n (pc := 616) cx dL_people_616 rfl 1 rfl ?_
                  refine G.iload (pc := 617) cx dL_people_617 13 rfl ?_
                  refine G.iload (pc := 619) cx dL_people_619 0 rfl ?_
                  obtain ⟨s621, hs621, hc621, M621, hi621⟩ := k_yes (v := (zWrite (zSpend (upd (upd y (10 * r195 + 7) ((y (10 * r195 + 7)) + (nI (1 + r246)))) 198 ((y 198) + (nI (1 + r246)))) (nI (1 + r246))) (nI r195) 2 (nI (1 + r246))) 195) (D2 := zWrite (zSpend (upd (upd y (10 * r195 + 7) ((y (10 * r195 + 7)) + (nI (1 + r246)))) 198 ((y 198) + (nI (1 + r246)))) (nI (1 + r246))) (nI r195) 2 (nI (1 + r246))) (k_advance (l := l) (K := K) (sz := sz) (x := x) (y := (zWrite (zSpend (upd (upd y (10 * r195 + 7) ((y (10 * r195 + 7)) + (nI (1 + r246)))) 198 ((y 198) + (nI (1 + r246)))) (nI (1 + r246))) (nI r195) 2 (nI (1 + r246)))) (V := V) hI hS (nI r195) (nI (1 + r246))) (by exact yes_adv hI (by omega) (by omega) (by omega) (fun q => q.elim (fun q => cq518 ((sea_nat hSe hS1).mp q)) (fun q => q.elim cq524 nq531))) (by exact congrFun (do_adv hI (by omega) _) 195) (by exact do_adv hI (by omega) _)
                  refine G.callVg (pc := 621) (rest := []) (st1 := [.int ((zWrite (zSpend (upd (upd y (10 * r195 + 7) ((y (10 * r195 + 7)) + (nI (1 + r246)))) 198 ((y 198) + (nI (1 + r246)))) (nI (1 + r246))) (nI r195) 2 (nI (1 + r246))) 195)]) cx hc621 ok_X9_advance dL_people_621 wm_ml_L_53 rfl xw_o rfl (Nat.le_of_ble_eq_true rfl) ⟨Nat.le_of_ble_eq_true rfl, Nat.le_of_ble_eq_true rfl⟩ ⟨Nat.le_of_ble_eq_true rfl, Nat.le_of_ble_eq_true rfl⟩ rfl ?_
                  refine G.aload_n (pc := 624) cx dL_people_624 rfl 4 rfl ?_
                  refine G.iconst (pc := 625) cx dL_people_625 (v := 5) (by decide) ?_
                  refine G.ialdV (pc := 626) cx dL_people_626 xl_g (j := 5) rfl (by omega) (by decide) (xr_g (n := 195) (by omega) (by omega)) ?_
                  refine G.icmp_ne (pc := 627) cx dL_people_627 (tgt := 634) (by decide) (fun h9 => absurd rfl h9) (fun _ => ?_)
                  refine G.iconst (pc := 630) cx dL_people_630 (v := 1) (by decide) ?_
                  refine G.goto (pc := 631) cx dL_people_631 (tgt := 635) (by decide) ?_
                  refine G.zretP (pc := 635) cx rfl dL_people_635 rfl ?_
                  exact ⟨rfl, _, _, _, rfl, hs621, hi621⟩
                · skip
                  have nq531 := Int32.not_le.mp cq531
                  refine G.castL (lv' := [(0, .ref x), (1, .int u0), (2, .int v0), (3, .ref (x + 194)), (4, .ref (x + 195)), (5, .ref (x + 196)), (6, .ref (x + 197)), (7, .ref (x + 198)), (8, .ref (x + 199)), (9, .int (nI r3)), (10, .int (-1000002)), (11, .int (-1000001)), (12, .int (nI r195)), (13, .int (y (10 * r195 + 2))), (14, .int (zBal y r195)), (15, .int (nI (1 + r246)))]) [1, 2, 3, 4, 5, 6, 7, 8, 9, 10, 11, 12, 13, 14, 15, 0] rfl ?_
                  exact J534_12 (by first | exact Or.inl cq518 | exact Or.inr (Or.inl cq524) | exact Or.inr (Or.inr nq531))
        · skip
          have nq255 := Nat.not_le.mpr cq255
          refine G.iload_n (pc := 258) cx dL_people_258 rfl 3 rfl ?_
          refine G.iconst (pc := 259) cx dL_people_259 (v := 4) (by decide) ?_
          refine G.ishr (pc := 260) cx dL_people_260 ?_
          refine G.bipush (pc := 261) cx dL_people_261 (v := 6) (by decide) ?_
          obtain ⟨r263, hr263, hl263⟩ := k_low l K sz (xwL K x y s y V) (v0 >>> (4 &&& 31)) (n := 6) (by omega) (by omega)
          refine G.callSg (pc := 263) (rest := []) (st1 := [.int (nI r263)]) cx hl263 ok_L_low dL_people_263 wm_ml_L_27 rfl rfl (Nat.le_of_ble_eq_true rfl) ⟨Nat.le_of_ble_eq_true rfl, Nat.le_of_ble_eq_true rfl⟩ ⟨Nat.le_of_ble_eq_true rfl, Nat.le_of_ble_eq_true rfl⟩ rfl ?_
          refine G.istore (pc := 266) cx dL_people_266 (by decide) rfl ?_
          refine G.iconst (pc := 268) cx dL_people_268 (v := 1) (by decide) ?_
          refine G.iload_n (pc := 269) cx dL_people_269 rfl 4 rfl ?_
          refine G.bipush (pc := 270) cx dL_people_270 (v := 7) (by decide) ?_
          refine G.ishr (pc := 272) cx dL_people_272 ?_
          refine G.iload_n (pc := 273) cx dL_people_273 rfl 4 rfl ?_
          refine G.bipush (pc := 274) cx dL_people_274 (v := 16) (by decide) ?_
          refine G.ishr (pc := 276) cx dL_people_276 ?_
          refine G.iconst (pc := 277) cx dL_people_277 (v := 3) (by decide) ?_
          refine G.iand (pc := 278) cx dL_people_278 ?_
          obtain ⟨mx288, hm288⟩ : ∃ q : Nat, q = (if ¬ ((v0 >>> (16 &&& 31)) &&& 3) = 0 then 4 else 99) ∧ 0 < q ∧ q ≤ 99 := ⟨_, rfl, by split <;> omega, by split <;> omega⟩
          have hma288 := hm288.2.1
          have hmb288 := hm288.2.2
          have J288_13 : G K p9 l e9 (rmL 7 0 0) s9 m9 a9 b9 t9 c9 (MQ b9 (QCp K (PoL K x V B) sz) a9 s9 0 0 (kA K)) 21 (xwL K x y s y V) sz 0 0 288 [(0, .ref x), (1, .int u0), (2, .int v0), (3, .ref (x + 194)), (4, .ref (x + 195)), (5, .ref (x + 196)), (6, .ref (x + 197)), (7, .ref (x + 198)), (8, .ref (x + 199)), (9, .int (nI r3)), (10, .int (-1000002)), (11, .int (-1000001)), (12, .int (nI r195)), (13, .int (y (10 * r195 + 2))), (14, .int (zBal y r195)), (15, .int (nI (1 + r246))), (16, .int (nI r263))] [.int (nI mx288), .int (v0 >>> (7 &&& 31)), .int 1] := by
            obtain ⟨r288, hr288, hl288⟩ := k_low l K sz (xwL K x y s y V) (v0 >>> (7 &&& 31)) (n := mx288) (by omega) (by omega)
            refine G.callSg (pc := 288) (rest := [.int 1]) (st1 := [.int (nI r288), .int 1]) cx hl288 ok_L_low dL_people_288 wm_ml_L_27 rfl rfl (Nat.le_of_ble_eq_true rfl) ⟨Nat.le_of_ble_eq_true rfl, Nat.le_of_ble_eq_true rfl⟩ ⟨Nat.le_of_ble_eq_true rfl, Nat.le_of_ble_eq_true rfl⟩ rfl ?_
            refine G.iaddN (pc := 291) cx dL_people_291 1 r288 ?_
            refine G.istore (pc := 292) cx dL_people_292 (by decide) rfl ?_
            refine G.aload_n (pc := 294) cx dL_people_294 rfl 4 rfl ?_
            refine G.aload (pc := 295) cx dL_people_295 5 rfl ?_
            refine G.aload (pc := 297) cx dL_people_297 6 rfl ?_
            refine G.aload (pc := 299) cx dL_people_299 7 rfl ?_
            refine G.aload (pc := 301) cx dL_people_301 8 rfl ?_
            refine G.iload (pc := 303) cx dL_people_303 13 rfl ?_
            refine G.iload (pc := 305) cx dL_people_305 17 rfl ?_
            refine G.iload (pc := 307) cx dL_people_307 0 rfl ?_
            refine G.callSg (pc := 309) (rest := []) (st1 := [.int (lWhy y r195 r263 (nI (1 + r288)))]) cx (c_L_why l K sz x y s y V r195 r263 (nI (1 + r288)) (by omega) (by omega)) ok_L_why dL_people_309 wm_ml_L_43 rfl rfl (Nat.le_of_ble_eq_true rfl) ⟨Nat.le_of_ble_eq_true rfl, Nat.le_of_ble_eq_true rfl⟩ ⟨Nat.le_of_ble_eq_true rfl, Nat.le_of_ble_eq_true rfl⟩ rfl ?_
            refine G.istore (pc := 312) cx dL_people_312 (by decide) rfl ?_
            refine G.iload (pc := 314) cx dL_people_314 0 rfl ?_
            refine G.if_le (pc := 316) cx dL_people_316 (tgt := 401) (by decide) (fun cq316 => ?_) (fun cq316 => ?_)
            · skip
              have nq316 := Int32.not_lt.mpr cq316
              refine G.iload (pc := 401) cx dL_people_401 1 rfl ?_
              refine G.aload (pc := 403) cx dL_people_403 9 rfl ?_
              refine G.iconst (pc := 405) cx dL_people_405 (v := 5) (by decide) ?_
              refine G.iload (pc := 406) cx dL_people_406 18 rfl ?_
              refine G.imulN (pc := 408) cx dL_people_408 5 r263 ?_
              refine G.iconst (pc := 409) cx dL_people_409 (v := 1) (by decide) ?_
              refine G.iaddN (pc := 410) cx dL_people_410 (5 * r263) 1 ?_
              refine G.ialdV (pc := 411) cx dL_people_411 xl_t (j := ((5 * r263) + 1)) rfl (by omega) (by decide) (xr_t (n := 160 + 5 * r263 + 1) (by omega) (by omega)) ?_
              refine G.imul (pc := 412) cx dL_people_412 ?_
              refine G.istore (pc := 413) cx dL_people_413 (by decide) rfl ?_
              refine G.aload (pc := 415) cx dL_people_415 10 rfl ?_
              refine G.iconst (pc := 417) cx dL_people_417 (v := 5) (by decide) ?_
              refine G.iload (pc := 418) cx dL_people_418 19 rfl ?_
              refine G.imulN (pc := 420) cx dL_people_420 5 r263 ?_
              refine G.dup2 (pc := 421) cx dL_people_421 rfl rfl ?_
              refine G.ialdV (pc := 422) cx dL_people_422 xl_t (j := (5 * r263)) rfl (by omega) (by decide) (xr_t (n := 160 + 5 * r263) (by omega) (by omega)) ?_
              refine G.iload (pc := 423) cx dL_people_423 2 rfl ?_
              refine G.isub (pc := 425) cx dL_people_425 ?_
              refine G.iastC (pc := 426) cx dL_people_426 xl_t (j := (5 * r263)) rfl (by omega) (by decide) (xs_t (n := 160 + 5 * r263) (by omega) (by omega)) ?_
              refine G.aload (pc := 427) cx dL_people_427 10 rfl ?_
              refine G.iconst (pc := 429) cx dL_people_429 (v := 5) (by decide) ?_
              refine G.iload (pc := 430) cx dL_people_430 19 rfl ?_
              refine G.imulN (pc := 432) cx dL_people_432 5 r263 ?_
              refine G.iconst (pc := 433) cx dL_people_433 (v := 3) (by decide) ?_
              refine G.iaddN (pc := 434) cx dL_people_434 (5 * r263) 3 ?_
              refine G.dup2 (pc := 435) cx dL_people_435 rfl rfl ?_
              refine G.ialdV (pc := 436) cx dL_people_436 xl_t (j := ((5 * r263) + 3)) rfl (by omega) (by decide) ((xr_t (n := 160 + 5 * r263 + 3) (by omega) (by omega)).trans (upd_n (i := 160 + 5 * r263) (j := 160 + 5 * r263 + 3) y ((y (160 + 5 * r263)) - (nI (1 + r288))) (by omega))) ?_
              refine G.iload (pc := 437) cx dL_people_437 2 rfl ?_
              refine G.iadd (pc := 439) cx dL_people_439 ?_
              refine G.iastC (pc := 440) cx dL_people_440 xl_t (j := ((5 * r263) + 3)) rfl (by omega) (by decide) (xs_t (n := 160 + 5 * r263 + 3) (by omega) (by omega)) ?_
              refine G.aload (pc := 441) cx dL_people_441 10 rfl ?_
              refine G.iconst (pc := 443) cx dL_people_443 (v := 5) (by decide) ?_
              refine G.iload (pc := 444) cx dL_people_444 19 rfl ?_
              refine G.imulN (pc := 446) cx dL_people_446 5 r263 ?_
              refine G.iconst (pc := 447) cx dL_people_447 (v := 4) (by decide) ?_
              refine G.iaddN (pc := 448) cx dL_people_448 (5 * r263) 4 ?_
              refine G.dup2 (pc := 449) cx dL_people_449 rfl rfl ?_
              refine G.ialdV (pc := 450) cx dL_people_450 xl_t (j := ((5 * r263) + 4)) rfl (by omega) (by decide) ((xr_t (n := 160 + 5 * r263 + 4) (by omega) (by omega)).trans ((upd_n (i := 160 + 5 * r263 + 3) (j := 160 + 5 * r263 + 4) (upd y (160 + 5 * r263) ((y (160 + 5 * r263)) - (nI (1 + r288)))) ((y (160 + 5 * r263 + 3)) + (nI (1 + r288))) (by omega)).trans (upd_n (i := 160 + 5 * r263) (j := 160 + 5 * r263 + 4) y ((y (160 + 5 * r263)) - (nI (1 + r288))) (by omega)))) ?_
              refine G.iload (pc := 451) cx dL_people_451 0 rfl ?_
              refine G.iadd (pc := 453) cx dL_people_453 ?_
              refine G.iastC (pc := 454) cx dL_people_454 xl_t (j := ((5 * r263) + 4)) rfl (by omega) (by decide) (xs_t (n := 160 + 5 * r263 + 4) (by omega) (by omega)) ?_
              refine G.aload (pc := 455) cx dL_people_455 9 rfl ?_
              refine G.iconst (pc := 457) cx dL_people_457 (v := 3) (by decide) ?_
              refine G.iload (pc := 458) cx dL_people_458 15 rfl ?_
              refine G.imulN (pc := 460) cx dL_people_460 3 r195 ?_
              refine G.dup2 (pc := 461) cx dL_people_461 rfl rfl ?_
              refine G.ialdV (pc := 462) cx dL_people_462 xl_c (j := (3 * r195)) rfl (by omega) (by decide) ((xr_c (n := 10 * r195 + 5) (by omega) (by omega)).trans ((upd_n (i := 160 + 5 * r263 + 4) (j := 10 * r195 + 5) (upd (upd y (160 + 5 * r263) ((y (160 + 5 * r263)) - (nI (1 + r288)))) (160 + 5 * r263 + 3) ((y (160 + 5 * r263 + 3)) + (nI (1 + r288)))) ((y (160 + 5 * r263 + 4)) + ((nI (1 + r288)) * (y (160 + 5 * r263 + 1)))) (by omega)).trans ((upd_n (i := 160 + 5 * r263 + 3) (j := 10 * r195 + 5) (upd y (160 + 5 * r263) ((y (160 + 5 * r263)) - (nI (1 + r288)))) ((y (160 + 5 * r263 + 3)) + (nI (1 + r288))) (by omega)).trans (upd_n (i := 160 + 5 * r263) (j := 10 * r195 + 5) y ((y (160 + 5 * r263)) - (nI (1 + r288))) (by omega))))) ?_
              refine G.iload (pc := 463) cx dL_people_463 0 rfl ?_
              refine G.iadd (pc := 465) cx dL_people_465 ?_
              refine G.iastC (pc := 466) cx dL_people_466 xl_c (j := (3 * r195)) rfl (by omega) (by decide) (xs_c (n := 10 * r195 + 5) (by omega) (by omega)) ?_
              refine G.aload_n (pc := 467) cx dL_people_467 rfl 6 rfl ?_
              refine G.bipush (pc := 468) cx dL_people_468 (v := 10) (by decide) ?_
              refine G.dup2 (pc := 470) cx dL_people_470 rfl rfl ?_
              refine G.ialdV (pc := 471) cx dL_people_471 xl_g (j := 10) rfl (by omega) (by decide) ((xr_g (n := 200) (by omega) (by omega)).trans ((upd_n (i := 10 * r195 + 5) (j := 200) (upd (upd (upd y (160 + 5 * r263) ((y (160 + 5 * r263)) - (nI (1 + r288)))) (160 + 5 * r263 + 3) ((y (160 + 5 * r263 + 3)) + (nI (1 + r288)))) (160 + 5 * r263 + 4) ((y (160 + 5 * r263 + 4)) + ((nI (1 + r288)) * (y (160 + 5 * r263 + 1))))) ((y (10 * r195 + 5)) + ((nI (1 + r288)) * (y (160 + 5 * r263 + 1)))) (by omega)).trans ((upd_n (i := 160 + 5 * r263 + 4) (j := 200) (upd (upd y (160 + 5 * r263) ((y (160 + 5 * r263)) - (nI (1 + r288)))) (160 + 5 * r263 + 3) ((y (160 + 5 * r263 + 3)) + (nI (1 + r288)))) ((y (160 + 5 * r263 + 4)) + ((nI (1 + r288)) * (y (160 + 5 * r263 + 1)))) (by omega)).trans ((upd_n (i := 160 + 5 * r263 + 3) (j := 200) (upd y (160 + 5 * r263) ((y (160 + 5 * r263)) - (nI (1 + r288)))) ((y (160 + 5 * r263 + 3)) + (nI (1 + r288))) (by omega)).trans (upd_n (i := 160 + 5 * r263) (j := 200) y ((y (160 + 5 * r263)) - (nI (1 + r288))) (by omega)))))) ?_
              refine G.iload (pc := 472) cx dL_people_472 0 rfl ?_
              refine G.iadd (pc := 474) cx dL_people_474 ?_
              refine G.iastC (pc := 475) cx dL_people_475 xl_g (j := 10) rfl (by omega) (by decide) (xs_g (n := 200) (by omega) (by omega)) ?_
              refine G.aload_n (pc := 476) cx dL_people_476 rfl 6 rfl ?_
              refine G.aload (pc := 477) cx dL_people_477 11 rfl ?_
              refine G.iload (pc := 479) cx dL_people_479 15 rfl ?_
              refine G.iconst (pc := 481) cx dL_people_481 (v := 0) (by decide) ?_
              refine G.iload (pc := 482) cx dL_people_482 0 rfl ?_
              refine G.callSg (pc := 484) (rest := []) (st1 := []) cx (c_L_write l K sz x y s (upd (upd (upd (upd (upd y (160 + 5 * r263) ((y (160 + 5 * r263)) - (nI (1 + r288)))) (160 + 5 * r263 + 3) ((y (160 + 5 * r263 + 3)) + (nI (1 + r288)))) (160 + 5 * r263 + 4) ((y (160 + 5 * r263 + 4)) + ((nI (1 + r288)) * (y (160 + 5 * r263 + 1))))) (10 * r195 + 5) ((y (10 * r195 + 5)) + ((nI (1 + r288)) * (y (160 + 5 * r263 + 1))))) 200 ((y 200) + ((nI (1 + r288)) * (y (160 + 5 * r263 + 1))))) V (nI r195) 0 ((nI (1 + r288)) * (y (160 + 5 * r263 + 1))) E (by first | exact hE | (rw [upd_n _ _ (by omega)]; exact hE) | (rw [upd_n _ _ (by omega), upd_n _ _ (by omega)]; exact hE) | (rw [upd_n _ _ (by omega), upd_n _ _ (by omega), upd_n _ _ (by omega)]; exact hE) | (rw [upd_n _ _ (by omega), upd_n _ _ (by omega), upd_n _ _ (by omega), upd_n _ _ (by omega)]; exact hE) | (rw [upd_n _ _ (by omega), upd_n _ _ (by omega), upd_n _ _ (by omega), upd_n _ _ (by omega), upd_n _ _ (by omega)]; exact hE) | (rw [upd_n _ _ (by omega), upd_n _ _ (by omega), upd_n _ _ (by omega), upd_n _ _ (by omega), upd_n _ _ (by omega), upd_n _ _ (by omega)]; exact hE)) (by omega)) ok_L_write dL_people_484 wm_ml_L_15 rfl rfl (Nat.le_of_ble_eq_true rfl) ⟨Nat.le_of_ble_eq_true rfl, Nat.le_of_ble_eq_true rfl⟩ ⟨Nat.le_of_ble_eq_true rfl, Nat.le_of_ble_eq_true rfl⟩ rfl ?_
              refine G.aload_n (pc := 487) cx dL_people_487 rfl 3 rfl ?_
              refine G.iload (pc := 488) cx dL_people_488 15 rfl ?_
              refine G.iload (pc := 490) cx dL_people_490 19 rfl ?_
              refine G.iload (pc := 492) cx dL_people_492 2 rfl ?_
              obtain ⟨s494, hs494, hc494, M494, hi494⟩ := k_yes (v := (nI (1 + r288)) * (y (160 + 5 * r263 + 1))) (D2 := zWrite (upd (upd (upd (upd (upd y (160 + 5 * r263) ((y (160 + 5 * r263)) - (nI (1 + r288)))) (160 + 5 * r263 + 3) ((y (160 + 5 * r263 + 3)) + (nI (1 + r288)))) (160 + 5 * r263 + 4) ((y (160 + 5 * r263 + 4)) + ((nI (1 + r288)) * (y (160 + 5 * r263 + 1))))) (10 * r195 + 5) ((y (10 * r195 + 5)) + ((nI (1 + r288)) * (y (160 + 5 * r263 + 1))))) 200 ((y 200) + ((nI (1 + r288)) * (y (160 + 5 * r263 + 1))))) (nI r195) 0 ((nI (1 + r288)) * (y (160 + 5 * r263 + 1)))) (k_sell (l := l) (K := K) (sz := sz) (x := x) (y := (zWrite (upd (upd (upd (upd (upd y (160 + 5 * r263) ((y (160 + 5 * r263)) - (nI (1 + r288)))) (160 + 5 * r263 + 3) ((y (160 + 5 * r263 + 3)) + (nI (1 + r288)))) (160 + 5 * r263 + 4) ((y (160 + 5 * r263 + 4)) + ((nI (1 + r288)) * (y (160 + 5 * r263 + 1))))) (10 * r195 + 5) ((y (10 * r195 + 5)) + ((nI (1 + r288)) * (y (160 + 5 * r263 + 1))))) 200 ((y 200) + ((nI (1 + r288)) * (y (160 + 5 * r263 + 1))))) (nI r195) 0 ((nI (1 + r288)) * (y (160 + 5 * r263 + 1))))) (V := V) hI hS (nI r195) (nI r263) (nI (1 + r288))) (by exact yes_sell hI (by omega) (by omega) (by omega) (by omega) nq316) (by rw [cl6 (by omega)]) (by exact do_sell hI (by omega) (by omega) _ _ rfl)
              refine G.callVg (pc := 494) (rest := []) (st1 := [.int ((nI (1 + r288)) * (y (160 + 5 * r263 + 1)))]) cx hc494 ok_X9_sell dL_people_494 wm_ml_L_47 rfl xw_o rfl (Nat.le_of_ble_eq_true rfl) ⟨Nat.le_of_ble_eq_true rfl, Nat.le_of_ble_eq_true rfl⟩ ⟨Nat.le_of_ble_eq_true rfl, Nat.le_of_ble_eq_true rfl⟩ rfl ?_
              refine G.iload (pc := 497) cx dL_people_497 0 rfl ?_
              refine G.icmp_ne (pc := 499) cx dL_people_499 (tgt := 506) (by decide) (fun h9 => absurd rfl h9) (fun _ => ?_)
              refine G.iconst (pc := 502) cx dL_people_502 (v := 1) (by decide) ?_
              refine G.goto (pc := 503) cx dL_people_503 (tgt := 507) (by decide) ?_
              refine G.zretP (pc := 507) cx rfl dL_people_507 rfl ?_
              exact ⟨rfl, _, _, _, rfl, hs494, hi494⟩
            · skip
              have nq316 := Int32.not_le.mp cq316
              refine G.aload_n (pc := 319) cx dL_people_319 rfl 2 rfl ?_
              refine G.iload (pc := 320) cx dL_people_320 14 rfl ?_
              refine G.iload (pc := 322) cx dL_people_322 18 rfl ?_
              refine G.iload (pc := 324) cx dL_people_324 1 rfl ?_
              obtain ⟨s326, hs326, hc326⟩ := k_no (c := -1000002) (k_sell (l := l) (K := K) (sz := sz) (x := x) (y := y) (V := V) hI hS (nI r195) (nI r263) (nI (1 + r288))) (by exact no_sell hI (by omega) (by omega) (by omega) (by omega) nq316) (by first | decide | (split <;> decide))
              refine G.callVg (pc := 326) (rest := []) (st1 := [.int (-1000002)]) cx hc326 ok_X9_sell dL_people_326 wm_ml_L_47 rfl xw_o rfl (Nat.le_of_ble_eq_true rfl) ⟨Nat.le_of_ble_eq_true rfl, Nat.le_of_ble_eq_true rfl⟩ ⟨Nat.le_of_ble_eq_true rfl, Nat.le_of_ble_eq_true rfl⟩ rfl ?_
              refine G.iload (pc := 329) cx dL_people_329 12 rfl ?_
              refine G.icmp_ne (pc := 331) cx dL_people_331 (tgt := 399) (by decide) (fun h9 => absurd rfl h9) (fun _ => ?_)
              refine G.aload_n (pc := 334) cx dL_people_334 rfl 2 rfl ?_
              refine G.iload (pc := 335) cx dL_people_335 14 rfl ?_
              refine G.iload (pc := 337) cx dL_people_337 18 rfl ?_
              refine G.iload (pc := 339) cx dL_people_339 1 rfl ?_
              refine G.callVg (pc := 341) (rest := []) (st1 := [.int (zWhyP y (nI r195) (nI r263) (nI (1 + r288)))]) cx (k_why (l := l) (K := K) (sz := sz) (x := x) (z := y) (y := y) (s := s326) (V := V) hI (nI r195) (nI r263) (nI (1 + r288))) ok_X9_why dL_people_341 wm_ml_L_51 rfl xw_o rfl (Nat.le_of_ble_eq_true rfl) ⟨Nat.le_of_ble_eq_true rfl, Nat.le_of_ble_eq_true rfl⟩ ⟨Nat.le_of_ble_eq_true rfl, Nat.le_of_ble_eq_true rfl⟩ rfl ?_
              refine G.iload (pc := 344) cx dL_people_344 0 rfl ?_
              refine G.icmp_ne (pc := 346) cx dL_people_346 (tgt := 399) (by decide) (fun h9 => absurd (by exact whyP_in hI (by omega) (by omega) (by omega) (by omega)) h9) (fun _ => ?_)
              refine G.aload_n (pc := 349) cx dL_people_349 rfl 2 rfl ?_
              refine G.aload_n (pc := 350) cx dL_people_350 rfl 5 rfl ?_
              refine G.iconst (pc := 351) cx dL_people_351 (v := 4) (by decide) ?_
              refine G.ialdV (pc := 352) cx dL_people_352 xl_g (j := 4) rfl (by omega) (by decide) ((xr_g (n := 194) (by omega) (by omega)).trans (hN)) ?_
              refine G.iload (pc := 353) cx dL_people_353 18 rfl ?_
              refine G.iload (pc := 355) cx dL_people_355 1 rfl ?_
              obtain ⟨s357, hs357, hc357⟩ := k_no (c := -1000001) (k_sell (l := l) (K := K) (sz := sz) (x := x) (y := y) (V := V) hI hs326 (nI N) (nI r263) (nI (1 + r288))) (by exact bad_sellN hI _ _) (by first | decide | (split <;> decide))
              refine G.callVg (pc := 357) (rest := []) (st1 := [.int (-1000001)]) cx hc357 ok_X9_sell dL_people_357 wm_ml_L_47 rfl xw_o rfl (Nat.le_of_ble_eq_true rfl) ⟨Nat.le_of_ble_eq_true rfl, Nat.le_of_ble_eq_true rfl⟩ ⟨Nat.le_of_ble_eq_true rfl, Nat.le_of_ble_eq_true rfl⟩ rfl ?_
              refine G.iload (pc := 360) cx dL_people_360 13 rfl ?_
              refine G.icmp_ne (pc := 362) cx dL_people_362 (tgt := 399) (by decide) (fun h9 => absurd rfl h9) (fun _ => ?_)
              refine G.aload_n (pc := 365) cx dL_people_365 rfl 2 rfl ?_
              refine G.iload (pc := 366) cx dL_people_366 14 rfl ?_
              refine G.bipush (pc := 368) cx dL_people_368 (v := 6) (by decide) ?_
              refine G.iload (pc := 370) cx dL_people_370 1 rfl ?_
              obtain ⟨s372, hs372, hc372⟩ := k_no (c := -1000001) (k_sell (l := l) (K := K) (sz := sz) (x := x) (y := y) (V := V) hI hs357 (nI r195) 6 (nI (1 + r288))) (by exact bad_sell6 _ _ _) (by first | decide | (split <;> decide))
              refine G.callVg (pc := 372) (rest := []) (st1 := [.int (-1000001)]) cx hc372 ok_X9_sell dL_people_372 wm_ml_L_47 rfl xw_o rfl (Nat.le_of_ble_eq_true rfl) ⟨Nat.le_of_ble_eq_true rfl, Nat.le_of_ble_eq_true rfl⟩ ⟨Nat.le_of_ble_eq_true rfl, Nat.le_of_ble_eq_true rfl⟩ rfl ?_
              refine G.iload (pc := 375) cx dL_people_375 13 rfl ?_
              refine G.icmp_ne (pc := 377) cx dL_people_377 (tgt := 399) (by decide) (fun h9 => absurd rfl h9) (fun _ => ?_)
              refine G.aload_n (pc := 380) cx dL_people_380 rfl 2 rfl ?_
              refine G.iload (pc := 381) cx dL_people_381 14 rfl ?_
              refine G.iload (pc := 383) cx dL_people_383 18 rfl ?_
              refine G.bipush (pc := 385) cx dL_people_385 (v := 100) (by decide) ?_
              obtain ⟨s387, hs387, hc387⟩ := k_no (c := -1000001) (k_sell (l := l) (K := K) (sz := sz) (x := x) (y := y) (V := V) hI hs372 (nI r195) (nI r263) 100) (by exact bad_sell100 _ _ _) (by first | decide | (split <;> decide))
              refine G.callVg (pc := 387) (rest := []) (st1 := [.int (-1000001)]) cx hc387 ok_X9_sell dL_people_387 wm_ml_L_47 rfl xw_o rfl (Nat.le_of_ble_eq_true rfl) ⟨Nat.le_of_ble_eq_true rfl, Nat.le_of_ble_eq_true rfl⟩ ⟨Nat.le_of_ble_eq_true rfl, Nat.le_of_ble_eq_true rfl⟩ rfl ?_
              refine G.iload (pc := 390) cx dL_people_390 13 rfl ?_
              refine G.icmp_ne (pc := 392) cx dL_people_392 (tgt := 399) (by decide) (fun h9 => absurd rfl h9) (fun _ => ?_)
              refine G.iconst (pc := 395) cx dL_people_395 (v := 1) (by decide) ?_
              refine G.goto (pc := 396) cx dL_people_396 (tgt := 400) (by decide) ?_
              refine G.zretP (pc := 400) cx rfl dL_people_400 rfl ?_
              exact ⟨rfl, _, _, _, rfl, hs387, hI.B (Nat.le_succ B)⟩
          refine G.if_ne (pc := 279) cx dL_people_279 (tgt := 287) (by decide) (fun cq279 => ?_) (fun cq279 => ?_)
          · skip
            refine G.iconst (pc := 287) cx dL_people_287 (v := 4) (by decide) ?_
            refine G.castS (st' := [.int (nI mx288), .int (v0 >>> (7 &&& 31)), .int 1]) (congrArg (fun q9 => ([.int q9, .int (v0 >>> (7 &&& 31)), .int 1] : List Value)) (show (4 : Int32) = nI mx288 from by first | exact (congrArg nI (hm288.1.trans (if_pos cq279))).symm | exact (congrArg nI (hm288.1.trans (if_neg (not_not_intro cq279)))).symm)) ?_
            refine G.castL (lv' := [(0, .ref x), (1, .int u0), (2, .int v0), (3, .ref (x + 194)), (4, .ref (x + 195)), (5, .ref (x + 196)), (6, .ref (x + 197)), (7, .ref (x + 198)), (8, .ref (x + 199)), (9, .int (nI r3)), (10, .int (-1000002)), (11, .int (-1000001)), (12, .int (nI r195)), (13, .int (y (10 * r195 + 2))), (14, .int (zBal y r195)), (15, .int (nI (1 + r246))), (16, .int (nI r263))]) [2, 3, 4, 5, 6, 7, 8, 9, 10, 11, 12, 13, 14, 15, 16, 1, 0] rfl ?_
            exact J288_13
          · skip
            refine G.bipush (pc := 282) cx dL_people_282 (v := 99) (by decide) ?_
            refine G.goto (pc := 284) cx dL_people_284 (tgt := 288) (by decide) ?_
            refine G.castS (st' := [.int (nI mx288), .int (v0 >>> (7 &&& 31)), .int 1]) (congrArg (fun q9 => ([.int q9, .int (v0 >>> (7 &&& 31)), .int 1] : List Value)) (show (99 : Int32) = nI mx288 from by first | exact (congrArg nI (hm288.1.trans (if_pos cq279))).symm | exact (congrArg nI (hm288.1.trans (if_neg (not_not_intro cq279)))).symm)) ?_
            refine G.castL (lv' := [(0, .ref x), (1, .int u0), (2, .int v0), (3, .ref (x + 194)), (4, .ref (x + 195)), (5, .ref (x + 196)), (6, .ref (x + 197)), (7, .ref (x + 198)), (8, .ref (x + 199)), (9, .int (nI r3)), (10, .int (-1000002)), (11, .int (-1000001)), (12, .int (nI r195)), (13, .int (y (10 * r195 + 2))), (14, .int (zBal y r195)), (15, .int (nI (1 + r246))), (16, .int (nI r263))]) [2, 3, 4, 5, 6, 7, 8, 9, 10, 11, 12, 13, 14, 15, 16, 1, 0] rfl ?_
            exact J288_13
      refine G.if_ne (pc := 235) cx dL_people_235 (tgt := 244) (by decide) (fun cq235 => ?_) (fun cq235 => ?_)
      · skip
        refine G.bipush (pc := 244) cx dL_people_244 (v := 40) (by decide) ?_
        refine G.castS (st' := [.int (nI mx246), .int (v0 >>> (6 &&& 31)), .int 1]) (congrArg (fun q9 => ([.int q9, .int (v0 >>> (6 &&& 31)), .int 1] : List Value)) (show (40 : Int32) = nI mx246 from by first | exact (congrArg nI (hm246.1.trans (if_pos cq235))).symm | exact (congrArg nI (hm246.1.trans (if_neg (not_not_intro cq235)))).symm)) ?_
        refine G.castL (lv' := [(0, .ref x), (1, .int u0), (2, .int v0), (3, .ref (x + 194)), (4, .ref (x + 195)), (5, .ref (x + 196)), (6, .ref (x + 197)), (7, .ref (x + 198)), (8, .ref (x + 199)), (9, .int (nI r3)), (10, .int (-1000002)), (11, .int (-1000001)), (12, .int (nI r195)), (13, .int (y (10 * r195 + 2))), (14, .int (zBal y r195))]) [6, 7, 8, 9, 10, 11, 12, 13, 14, 5, 4, 3, 2, 1, 0] rfl ?_
        exact J246_3
      · skip
        refine G.sipush (pc := 238) cx dL_people_238 (v := 999) (by decide) ?_
        refine G.goto (pc := 241) cx dL_people_241 (tgt := 246) (by decide) ?_
        refine G.castS (st' := [.int (nI mx246), .int (v0 >>> (6 &&& 31)), .int 1]) (congrArg (fun q9 => ([.int q9, .int (v0 >>> (6 &&& 31)), .int 1] : List Value)) (show (999 : Int32) = nI mx246 from by first | exact (congrArg nI (hm246.1.trans (if_pos cq235))).symm | exact (congrArg nI (hm246.1.trans (if_neg (not_not_intro cq235)))).symm)) ?_
        refine G.castL (lv' := [(0, .ref x), (1, .int u0), (2, .int v0), (3, .ref (x + 194)), (4, .ref (x + 195)), (5, .ref (x + 196)), (6, .ref (x + 197)), (7, .ref (x + 198)), (8, .ref (x + 199)), (9, .int (nI r3)), (10, .int (-1000002)), (11, .int (-1000001)), (12, .int (nI r195)), (13, .int (y (10 * r195 + 2))), (14, .int (zBal y r195))]) [6, 7, 8, 9, 10, 11, 12, 13, 14, 5, 4, 3, 2, 1, 0] rfl ?_
        exact J246_3
    · skip
      refine G.castL (lv' := [(0, .ref x), (1, .int u0), (2, .int v0), (3, .ref (x + 194)), (4, .ref (x + 195)), (5, .ref (x + 196)), (6, .ref (x + 197)), (7, .ref (x + 198)), (8, .ref (x + 199)), (9, .int (nI r3)), (10, .int (-1000002)), (11, .int (-1000001))]) [3, 4, 5, 6, 7, 8, 9, 10, 11, 2, 1, 0] rfl ?_
      exact J28_1
