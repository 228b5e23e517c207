set_option maxHeartbeats 4000000 in
set_option maxRecDepth 100000 in
theorem c_X4_carryOut (l : Launch) (K : KT) (sz : Nat) (x : Nat) (z : Zt) (t : Zt) (h : Nat → Zt) (π : Nat → Nat) (f : Zt) (u : Zt) (g : Zt) (V : VW) (q : Int32) (N : Nat) (hq : g 6 = q) (hN : t 194 = nI N) (h16 : N ≤ 16) : Ct l K yX4_carryOut cX4_carryOut 2 (some .int) 6 [.ref (x + 192), .ref (x + 32)] (ww K x z t h π f u g V) sz (some (.int (cOrdA t q u))) (ww K x z (cOrdD t q u) h π f u g V) sz 0 0 := by
  refine Ct.ofG (by decide) (Nat.le_of_ble_eq_true rfl) ?_
  intro p9 e9 s9 m9 a9 b9 t9 c9 cx hin9
  refine G.lv0 (lv2 := [(0, .ref (x + 192)), (1, .ref (x + 32))]) rfl ?_
  refine G.aload_n (pc := 0) cx dX4_carryOut_0 rfl 0 rfl ?_
  refine G.getV (pc := 1) cx dX4_carryOut_1 (T := TX4) 1 wm_fl_X4_25 inlX4 rfl (by decide) ww_o (congrArg (fun x => some (Value.int x)) (hq)) ?_
  by_cases sw4_97 : q = 97
  · subst sw4_97
    refine G.tableIn (pc := 4) cx dX4_carryOut_4 (off := 159) (tgt := 163) (by decide) (by decide) (by decide) (by decide) ?_
    refine G.aload_n (pc := 163) cx dX4_carryOut_163 rfl 1 rfl ?_
    refine G.aload_n (pc := 164) cx dX4_carryOut_164 rfl 0 rfl ?_
    refine G.iconst (pc := 165) cx dX4_carryOut_165 (v := 0) (by decide) ?_
    refine G.callV0 (pc := 166) (rest := [.ref (x + 32)]) (st1 := [.int (u 0), .ref (x + 32)]) cx (c_X4_number l K sz x z t h π f u g V 0 (by omega)) ok_X4_number dX4_carryOut_166 wm_ml_X4_49 rfl ww_o rfl rfl (Nat.le_of_ble_eq_true rfl) ⟨Nat.le_of_ble_eq_true rfl, Nat.le_of_ble_eq_true rfl⟩ rfl ?_
    refine G.aload_n (pc := 169) cx dX4_carryOut_169 rfl 0 rfl ?_
    refine G.iconst (pc := 170) cx dX4_carryOut_170 (v := 1) (by decide) ?_
    refine G.callV0 (pc := 171) (rest := [.int (u 0), .ref (x + 32)]) (st1 := [.int (u 1), .int (u 0), .ref (x + 32)]) cx (c_X4_number l K sz x z t h π f u g V 1 (by omega)) ok_X4_number dX4_carryOut_171 wm_ml_X4_49 rfl ww_o rfl rfl (Nat.le_of_ble_eq_true rfl) ⟨Nat.le_of_ble_eq_true rfl, Nat.le_of_ble_eq_true rfl⟩ rfl ?_
    refine G.cast (V' := (bw K (x + 32) t (ww K x z t h π f u g V))) (ww_b2 _).symm ?_
    refine G.callV0 (pc := 174) (rest := []) (st1 := [.int (if cNoAdv t (u 0) (u 1) < 0 then cNoAdv t (u 0) (u 1) else cDoAdv t (u 0).toNatClampNeg (u 1) 195)]) cx (c_X0_advanceTo l K sz (x + 32) t (ww K x z t h π f u g V) (u 0) (u 1) N (by assumption) (by omega)) ok_X0_advanceTo dX4_carryOut_174 wm_ml_X4_64 rfl bw_b rfl rfl (Nat.le_of_ble_eq_true rfl) ⟨Nat.le_of_ble_eq_true rfl, Nat.le_of_ble_eq_true rfl⟩ rfl ?_
    refine G.cast (V' := (ww K x z (if cNoAdv t (u 0) (u 1) < 0 then t else cDoAdv t (u 0).toNatClampNeg (u 1)) h π f u g V)) (ww_b2 _) ?_
    refine G.iret (pc := 177) cx rfl dX4_carryOut_177 ?_ ?_ rfl
    · refine congrArg (fun x => some (Value.int x)) ?_
      (try clear hin9); (try clear cx); (try clear hN2); first | (simp [cOrdA, zNN_of hN h16]; done) | (simp [cOrdA, zNN_of hN h16, *]; done)
    · show _ = _
      (try clear hin9); (try clear cx); first | (simp [cOrdD, zNN_of hN h16]; done) | (simp [cOrdD, zNN_of hN h16, *]; done)
  by_cases sw4_98 : q = 98
  · subst sw4_98
    refine G.tableIn (pc := 4) cx dX4_carryOut_4 (off := 119) (tgt := 123) (by decide) (by decide) (by decide) (by decide) ?_
    refine G.aload_n (pc := 123) cx dX4_carryOut_123 rfl 1 rfl ?_
    refine G.aload_n (pc := 124) cx dX4_carryOut_124 rfl 0 rfl ?_
    refine G.iconst (pc := 125) cx dX4_carryOut_125 (v := 0) (by decide) ?_
    refine G.callV0 (pc := 126) (rest := [.ref (x + 32)]) (st1 := [.int (u 0), .ref (x + 32)]) cx (c_X4_number l K sz x z t h π f u g V 0 (by omega)) ok_X4_number dX4_carryOut_126 wm_ml_X4_49 rfl ww_o rfl rfl (Nat.le_of_ble_eq_true rfl) ⟨Nat.le_of_ble_eq_true rfl, Nat.le_of_ble_eq_true rfl⟩ rfl ?_
    refine G.aload_n (pc := 129) cx dX4_carryOut_129 rfl 0 rfl ?_
    refine G.iconst (pc := 130) cx dX4_carryOut_130 (v := 1) (by decide) ?_
    refine G.callV0 (pc := 131) (rest := [.int (u 0), .ref (x + 32)]) (st1 := [.int (u 1), .int (u 0), .ref (x + 32)]) cx (c_X4_number l K sz x z t h π f u g V 1 (by omega)) ok_X4_number dX4_carryOut_131 wm_ml_X4_49 rfl ww_o rfl rfl (Nat.le_of_ble_eq_true rfl) ⟨Nat.le_of_ble_eq_true rfl, Nat.le_of_ble_eq_true rfl⟩ rfl ?_
    refine G.aload_n (pc := 134) cx dX4_carryOut_134 rfl 0 rfl ?_
    refine G.iconst (pc := 135) cx dX4_carryOut_135 (v := 2) (by decide) ?_
    refine G.callV0 (pc := 136) (rest := [.int (u 1), .int (u 0), .ref (x + 32)]) (st1 := [.int (u 2), .int (u 1), .int (u 0), .ref (x + 32)]) cx (c_X4_number l K sz x z t h π f u g V 2 (by omega)) ok_X4_number dX4_carryOut_136 wm_ml_X4_49 rfl ww_o rfl rfl (Nat.le_of_ble_eq_true rfl) ⟨Nat.le_of_ble_eq_true rfl, Nat.le_of_ble_eq_true rfl⟩ rfl ?_
    refine G.cast (V' := (bw K (x + 32) t (ww K x z t h π f u g V))) (ww_b2 _).symm ?_
    refine G.callV0 (pc := 139) (rest := []) (st1 := [.int (if cNoBuy t (u 0) (u 1) (u 2) < 0 then cNoBuy t (u 0) (u 1) (u 2) else zPriceC t (u 1) (u 2))]) cx (c_X0_buyForChest l K sz (x + 32) t (ww K x z t h π f u g V) (u 0) (u 1) (u 2)) ok_X0_buyForChest dX4_carryOut_139 wm_ml_X4_57 rfl bw_b rfl rfl (Nat.le_of_ble_eq_true rfl) ⟨Nat.le_of_ble_eq_true rfl, Nat.le_of_ble_eq_true rfl⟩ rfl ?_
    refine G.cast (V' := (ww K x z (if cNoBuy t (u 0) (u 1) (u 2) < 0 then t else cDoBuy t (u 0).toNatClampNeg (u 1) (u 2)) h π f u g V)) (ww_b2 _) ?_
    refine G.iret (pc := 142) cx rfl dX4_carryOut_142 ?_ ?_ rfl
    · refine congrArg (fun x => some (Value.int x)) ?_
      (try clear hin9); (try clear cx); (try clear hN2); first | (simp [cOrdA, zNN_of hN h16]; done) | (simp [cOrdA, zNN_of hN h16, *]; done)
    · show _ = _
      (try clear hin9); (try clear cx); first | (simp [cOrdD, zNN_of hN h16]; done) | (simp [cOrdD, zNN_of hN h16, *]; done)
  by_cases sw4_100 : q = 100
  · subst sw4_100
    refine G.tableIn (pc := 4) cx dX4_carryOut_4 (off := 189) (tgt := 193) (by decide) (by decide) (by decide) (by decide) ?_
    refine G.aload_n (pc := 193) cx dX4_carryOut_193 rfl 1 rfl ?_
    refine G.aload_n (pc := 194) cx dX4_carryOut_194 rfl 0 rfl ?_
    refine G.iconst (pc := 195) cx dX4_carryOut_195 (v := 0) (by decide) ?_
    refine G.callV0 (pc := 196) (rest := [.ref (x + 32)]) (st1 := [.int (u 0), .ref (x + 32)]) cx (c_X4_number l K sz x z t h π f u g V 0 (by omega)) ok_X4_number dX4_carryOut_196 wm_ml_X4_49 rfl ww_o rfl rfl (Nat.le_of_ble_eq_true rfl) ⟨Nat.le_of_ble_eq_true rfl, Nat.le_of_ble_eq_true rfl⟩ rfl ?_
    refine G.cast (V' := (bw K (x + 32) t (ww K x z t h π f u g V))) (ww_b2 _).symm ?_
    refine G.callV0 (pc := 199) (rest := []) (st1 := [.int (if cNoDays t (u 0) < 0 then cNoDays t (u 0) else t 192 + (u 0))]) cx (c_X0_passDays l K sz (x + 32) t (ww K x z t h π f u g V) (u 0) N (by assumption) (by omega)) ok_X0_passDays dX4_carryOut_199 wm_ml_X4_70 rfl bw_b rfl rfl (Nat.le_of_ble_eq_true rfl) ⟨Nat.le_of_ble_eq_true rfl, Nat.le_of_ble_eq_true rfl⟩ rfl ?_
    refine G.cast (V' := (ww K x z (if cNoDays t (u 0) < 0 then t else upd (cDayTo t (u 0) N) 192 (t 192 + (u 0))) h π f u g V)) (ww_b2 _) ?_
    refine G.iret (pc := 202) cx rfl dX4_carryOut_202 ?_ ?_ rfl
    · refine congrArg (fun x => some (Value.int x)) ?_
      (try clear hin9); (try clear cx); (try clear hN2); first | (simp [cOrdA, zNN_of hN h16]; done) | (simp [cOrdA, zNN_of hN h16, *]; done)
    · show _ = _
      (try clear hin9); (try clear cx); first | (simp [cOrdD, zNN_of hN h16]; done) | (simp [cOrdD, zNN_of hN h16, *]; done)
  by_cases sw4_102 : q = 102
  · subst sw4_102
    refine G.tableIn (pc := 4) cx dX4_carryOut_4 (off := 174) (tgt := 178) (by decide) (by decide) (by decide) (by decide) ?_
    refine G.aload_n (pc := 178) cx dX4_carryOut_178 rfl 1 rfl ?_
    refine G.aload_n (pc := 179) cx dX4_carryOut_179 rfl 0 rfl ?_
    refine G.iconst (pc := 180) cx dX4_carryOut_180 (v := 0) (by decide) ?_
    refine G.callV0 (pc := 181) (rest := [.ref (x + 32)]) (st1 := [.int (u 0), .ref (x + 32)]) cx (c_X4_number l K sz x z t h π f u g V 0 (by omega)) ok_X4_number dX4_carryOut_181 wm_ml_X4_49 rfl ww_o rfl rfl (Nat.le_of_ble_eq_true rfl) ⟨Nat.le_of_ble_eq_true rfl, Nat.le_of_ble_eq_true rfl⟩ rfl ?_
    refine G.aload_n (pc := 184) cx dX4_carryOut_184 rfl 0 rfl ?_
    refine G.iconst (pc := 185) cx dX4_carryOut_185 (v := 1) (by decide) ?_
    refine G.callV0 (pc := 186) (rest := [.int (u 0), .ref (x + 32)]) (st1 := [.int (u 1), .int (u 0), .ref (x + 32)]) cx (c_X4_number l K sz x z t h π f u g V 1 (by omega)) ok_X4_number dX4_carryOut_186 wm_ml_X4_49 rfl ww_o rfl rfl (Nat.le_of_ble_eq_true rfl) ⟨Nat.le_of_ble_eq_true rfl, Nat.le_of_ble_eq_true rfl⟩ rfl ?_
    refine G.cast (V' := (bw K (x + 32) t (ww K x z t h π f u g V))) (ww_b2 _).symm ?_
    refine G.callV0 (pc := 189) (rest := []) (st1 := [.int (if cNoFine t (u 0) (u 1) < 0 then cNoFine t (u 0) (u 1) else 5000 + cBal (cFine t (u 0).toNatClampNeg (u 1)) (u 0).toNatClampNeg)]) cx (c_X0_fineOne l K sz (x + 32) t (ww K x z t h π f u g V) (u 0) (u 1) N (by assumption) (by omega)) ok_X0_fineOne dX4_carryOut_189 wm_ml_X4_67 rfl bw_b rfl rfl (Nat.le_of_ble_eq_true rfl) ⟨Nat.le_of_ble_eq_true rfl, Nat.le_of_ble_eq_true rfl⟩ rfl ?_
    refine G.cast (V' := (ww K x z (if cNoFine t (u 0) (u 1) < 0 then t else cFine t (u 0).toNatClampNeg (u 1)) h π f u g V)) (ww_b2 _) ?_
    refine G.iret (pc := 192) cx rfl dX4_carryOut_192 ?_ ?_ rfl
    · refine congrArg (fun x => some (Value.int x)) ?_
      (try clear hin9); (try clear cx); (try clear hN2); first | (simp [cOrdA, zNN_of hN h16]; done) | (simp [cOrdA, zNN_of hN h16, *]; done)
    · show _ = _
      (try clear hin9); (try clear cx); first | (simp [cOrdD, zNN_of hN h16]; done) | (simp [cOrdD, zNN_of hN h16, *]; done)
  by_cases sw4_104 : q = 104
  · subst sw4_104
    refine G.tableIn (pc := 4) cx dX4_carryOut_4 (off := 104) (tgt := 108) (by decide) (by decide) (by decide) (by decide) ?_
    refine G.aload_n (pc := 108) cx dX4_carryOut_108 rfl 1 rfl ?_
    refine G.aload_n (pc := 109) cx dX4_carryOut_109 rfl 0 rfl ?_
    refine G.iconst (pc := 110) cx dX4_carryOut_110 (v := 0) (by decide) ?_
    refine G.callV0 (pc := 111) (rest := [.ref (x + 32)]) (st1 := [.int (u 0), .ref (x + 32)]) cx (c_X4_number l K sz x z t h π f u g V 0 (by omega)) ok_X4_number dX4_carryOut_111 wm_ml_X4_49 rfl ww_o rfl rfl (Nat.le_of_ble_eq_true rfl) ⟨Nat.le_of_ble_eq_true rfl, Nat.le_of_ble_eq_true rfl⟩ rfl ?_
    refine G.aload_n (pc := 114) cx dX4_carryOut_114 rfl 0 rfl ?_
    refine G.iconst (pc := 115) cx dX4_carryOut_115 (v := 1) (by decide) ?_
    refine G.callV0 (pc := 116) (rest := [.int (u 0), .ref (x + 32)]) (st1 := [.int (u 1), .int (u 0), .ref (x + 32)]) cx (c_X4_number l K sz x z t h π f u g V 1 (by omega)) ok_X4_number dX4_carryOut_116 wm_ml_X4_49 rfl ww_o rfl rfl (Nat.le_of_ble_eq_true rfl) ⟨Nat.le_of_ble_eq_true rfl, Nat.le_of_ble_eq_true rfl⟩ rfl ?_
    refine G.cast (V' := (bw K (x + 32) t (ww K x z t h π f u g V))) (ww_b2 _).symm ?_
    refine G.callV0 (pc := 119) (rest := []) (st1 := [.int (if cNoSign t N (u 0) (u 1) < 0 then cNoSign t N (u 0) (u 1) else nI N)]) cx (c_X0_signOn l K sz (x + 32) t (ww K x z t h π f u g V) (u 0) (u 1) N (by assumption) (by omega)) ok_X0_signOn dX4_carryOut_119 wm_ml_X4_52 rfl bw_b rfl rfl (Nat.le_of_ble_eq_true rfl) ⟨Nat.le_of_ble_eq_true rfl, Nat.le_of_ble_eq_true rfl⟩ rfl ?_
    refine G.cast (V' := (ww K x z (if cNoSign t N (u 0) (u 1) < 0 then t else cDoSign t N (u 0) (u 1)) h π f u g V)) (ww_b2 _) ?_
    refine G.iret (pc := 122) cx rfl dX4_carryOut_122 ?_ ?_ rfl
    · refine congrArg (fun x => some (Value.int x)) ?_
      (try clear hin9); (try clear cx); (try clear hN2); first | (simp [cOrdA, zNN_of hN h16]; done) | (simp [cOrdA, zNN_of hN h16, *]; done)
    · show _ = _
      (try clear hin9); (try clear cx); first | (simp [cOrdD, zNN_of hN h16]; done) | (simp [cOrdD, zNN_of hN h16, *]; done)
  by_cases sw4_108 : q = 108
  · subst sw4_108
    refine G.tableIn (pc := 4) cx dX4_carryOut_4 (off := 199) (tgt := 203) (by decide) (by decide) (by decide) (by decide) ?_
    refine G.aload_n (pc := 203) cx dX4_carryOut_203 rfl 1 rfl ?_
    refine G.aload_n (pc := 204) cx dX4_carryOut_204 rfl 0 rfl ?_
    refine G.iconst (pc := 205) cx dX4_carryOut_205 (v := 0) (by decide) ?_
    refine G.callV0 (pc := 206) (rest := [.ref (x + 32)]) (st1 := [.int (u 0), .ref (x + 32)]) cx (c_X4_number l K sz x z t h π f u g V 0 (by omega)) ok_X4_number dX4_carryOut_206 wm_ml_X4_49 rfl ww_o rfl rfl (Nat.le_of_ble_eq_true rfl) ⟨Nat.le_of_ble_eq_true rfl, Nat.le_of_ble_eq_true rfl⟩ rfl ?_
    refine G.cast (V' := (bw K (x + 32) t (ww K x z t h π f u g V))) (ww_b2 _).symm ?_
    refine G.callV0 (pc := 209) (rest := []) (st1 := [.int (if cNoLv t N (u 0) < 0 then cNoLv t N (u 0) else nI (cLeaveN t (u 0) N))]) cx (c_X0_letAshore l K sz (x + 32) t (ww K x z t h π f u g V) (u 0) N (by assumption) (by omega)) ok_X0_letAshore dX4_carryOut_209 wm_ml_X4_73 rfl bw_b rfl rfl (Nat.le_of_ble_eq_true rfl) ⟨Nat.le_of_ble_eq_true rfl, Nat.le_of_ble_eq_true rfl⟩ rfl ?_
    refine G.cast (V' := (ww K x z (if cNoLv t N (u 0) < 0 then t else cLeaveTo t (u 0) N) h π f u g V)) (ww_b2 _) ?_
    refine G.iret (pc := 212) cx rfl dX4_carryOut_212 ?_ ?_ rfl
    · refine congrArg (fun x => some (Value.int x)) ?_
      (try clear hin9); (try clear cx); (try clear hN2); first | (simp [cOrdA, zNN_of hN h16]; done) | (simp [cOrdA, zNN_of hN h16, *]; done)
    · show _ = _
      (try clear hin9); (try clear cx); first | (simp [cOrdD, zNN_of hN h16]; done) | (simp [cOrdD, zNN_of hN h16, *]; done)
  by_cases sw4_111 : q = 111
  · subst sw4_111
    refine G.tableIn (pc := 4) cx dX4_carryOut_4 (off := 224) (tgt := 228) (by decide) (by decide) (by decide) (by decide) ?_
    refine G.aload_n (pc := 228) cx dX4_carryOut_228 rfl 1 rfl ?_
    refine G.cast (V' := (bw K (x + 32) t (ww K x z t h π f u g V))) (ww_b2 _).symm ?_
    refine G.callV0 (pc := 229) (rest := []) (st1 := [.int (if cNoSail t < 0 then cNoSail t else nI (cLeft t N))]) cx (c_X0_putToSea l K sz (x + 32) t (ww K x z t h π f u g V) N (by assumption) (by omega)) ok_X0_putToSea dX4_carryOut_229 wm_ml_X4_79 rfl bw_b rfl rfl (Nat.le_of_ble_eq_true rfl) ⟨Nat.le_of_ble_eq_true rfl, Nat.le_of_ble_eq_true rfl⟩ rfl ?_
    refine G.cast (V' := (ww K x z (if cNoSail t < 0 then t else upd (cSailTo t N) 191 1) h π f u g V)) (ww_b2 _) ?_
    refine G.iret (pc := 232) cx rfl dX4_carryOut_232 ?_ ?_ rfl
    · refine congrArg (fun x => some (Value.int x)) ?_
      (try clear hin9); (try clear cx); (try clear hN2); first | (simp [cOrdA, zNN_of hN h16]; done) | (simp [cOrdA, zNN_of hN h16, *]; done)
    · show _ = _
      (try clear hin9); (try clear cx); first | (simp [cOrdD, zNN_of hN h16]; done) | (simp [cOrdD, zNN_of hN h16, *]; done)
  by_cases sw4_112 : q = 112
  · subst sw4_112
    refine G.tableIn (pc := 4) cx dX4_carryOut_4 (off := 229) (tgt := 233) (by decide) (by decide) (by decide) (by decide) ?_
    refine G.aload_n (pc := 233) cx dX4_carryOut_233 rfl 1 rfl ?_
    refine G.cast (V' := (bw K (x + 32) t (ww K x z t h π f u g V))) (ww_b2 _).symm ?_
    refine G.callV0 (pc := 234) (rest := []) (st1 := [.int (if cNoPort t < 0 then cNoPort t else t 193 + 1)]) cx (c_X0_comeIntoPort l K sz (x + 32) t (ww K x z t h π f u g V)) ok_X0_comeIntoPort dX4_carryOut_234 wm_ml_X4_83 rfl bw_b rfl rfl (Nat.le_of_ble_eq_true rfl) ⟨Nat.le_of_ble_eq_true rfl, Nat.le_of_ble_eq_true rfl⟩ rfl ?_
    refine G.cast (V' := (ww K x z (if cNoPort t < 0 then t else upd (upd t 191 0) 193 (t 193 + 1)) h π f u g V)) (ww_b2 _) ?_
    refine G.iret (pc := 237) cx rfl dX4_carryOut_237 ?_ ?_ rfl
    · refine congrArg (fun x => some (Value.int x)) ?_
      (try clear hin9); (try clear cx); (try clear hN2); first | (simp [cOrdA, zNN_of hN h16]; done) | (simp [cOrdA, zNN_of hN h16, *]; done)
    · show _ = _
      (try clear hin9); (try clear cx); first | (simp [cOrdD, zNN_of hN h16]; done) | (simp [cOrdD, zNN_of hN h16, *]; done)
  by_cases sw4_114 : q = 114
  · subst sw4_114
    refine G.tableIn (pc := 4) cx dX4_carryOut_4 (off := 209) (tgt := 213) (by decide) (by decide) (by decide) (by decide) ?_
    refine G.aload_n (pc := 213) cx dX4_carryOut_213 rfl 1 rfl ?_
    refine G.aload_n (pc := 214) cx dX4_carryOut_214 rfl 0 rfl ?_
    refine G.iconst (pc := 215) cx dX4_carryOut_215 (v := 0) (by decide) ?_
    refine G.callV0 (pc := 216) (rest := [.ref (x + 32)]) (st1 := [.int (u 0), .ref (x + 32)]) cx (c_X4_number l K sz x z t h π f u g V 0 (by omega)) ok_X4_number dX4_carryOut_216 wm_ml_X4_49 rfl ww_o rfl rfl (Nat.le_of_ble_eq_true rfl) ⟨Nat.le_of_ble_eq_true rfl, Nat.le_of_ble_eq_true rfl⟩ rfl ?_
    refine G.aload_n (pc := 219) cx dX4_carryOut_219 rfl 0 rfl ?_
    refine G.iconst (pc := 220) cx dX4_carryOut_220 (v := 1) (by decide) ?_
    refine G.callV0 (pc := 221) (rest := [.int (u 0), .ref (x + 32)]) (st1 := [.int (u 1), .int (u 0), .ref (x + 32)]) cx (c_X4_number l K sz x z t h π f u g V 1 (by omega)) ok_X4_number dX4_carryOut_221 wm_ml_X4_49 rfl ww_o rfl rfl (Nat.le_of_ble_eq_true rfl) ⟨Nat.le_of_ble_eq_true rfl, Nat.le_of_ble_eq_true rfl⟩ rfl ?_
    refine G.cast (V' := (bw K (x + 32) t (ww K x z t h π f u g V))) (ww_b2 _).symm ?_
    refine G.callV0 (pc := 224) (rest := []) (st1 := [.int (if cNoBack t (u 0) (u 1) < 0 then cNoBack t (u 0) (u 1) else (u 1) * t (203 + 2))]) cx (c_X0_comeBack l K sz (x + 32) t (ww K x z t h π f u g V) (u 0) (u 1) N (by assumption) (by omega)) ok_X0_comeBack dX4_carryOut_224 wm_ml_X4_76 rfl bw_b rfl rfl (Nat.le_of_ble_eq_true rfl) ⟨Nat.le_of_ble_eq_true rfl, Nat.le_of_ble_eq_true rfl⟩ rfl ?_
    refine G.cast (V' := (ww K x z (if cNoBack t (u 0) (u 1) < 0 then t else cDoBack t (u 0).toNatClampNeg (u 1)) h π f u g V)) (ww_b2 _) ?_
    refine G.iret (pc := 227) cx rfl dX4_carryOut_227 ?_ ?_ rfl
    · refine congrArg (fun x => some (Value.int x)) ?_
      (try clear hin9); (try clear cx); (try clear hN2); first | (simp [cOrdA, zNN_of hN h16]; done) | (simp [cOrdA, zNN_of hN h16, *]; done)
    · show _ = _
      (try clear hin9); (try clear cx); first | (simp [cOrdD, zNN_of hN h16]; done) | (simp [cOrdD, zNN_of hN h16, *]; done)
  by_cases sw4_118 : q = 118
  · subst sw4_118
    refine G.tableIn (pc := 4) cx dX4_carryOut_4 (off := 139) (tgt := 143) (by decide) (by decide) (by decide) (by decide) ?_
    refine G.aload_n (pc := 143) cx dX4_carryOut_143 rfl 1 rfl ?_
    refine G.aload_n (pc := 144) cx dX4_carryOut_144 rfl 0 rfl ?_
    refine G.iconst (pc := 145) cx dX4_carryOut_145 (v := 0) (by decide) ?_
    refine G.callV0 (pc := 146) (rest := [.ref (x + 32)]) (st1 := [.int (u 0), .ref (x + 32)]) cx (c_X4_number l K sz x z t h π f u g V 0 (by omega)) ok_X4_number dX4_carryOut_146 wm_ml_X4_49 rfl ww_o rfl rfl (Nat.le_of_ble_eq_true rfl) ⟨Nat.le_of_ble_eq_true rfl, Nat.le_of_ble_eq_true rfl⟩ rfl ?_
    refine G.aload_n (pc := 149) cx dX4_carryOut_149 rfl 0 rfl ?_
    refine G.iconst (pc := 150) cx dX4_carryOut_150 (v := 1) (by decide) ?_
    refine G.callV0 (pc := 151) (rest := [.int (u 0), .ref (x + 32)]) (st1 := [.int (u 1), .int (u 0), .ref (x + 32)]) cx (c_X4_number l K sz x z t h π f u g V 1 (by omega)) ok_X4_number dX4_carryOut_151 wm_ml_X4_49 rfl ww_o rfl rfl (Nat.le_of_ble_eq_true rfl) ⟨Nat.le_of_ble_eq_true rfl, Nat.le_of_ble_eq_true rfl⟩ rfl ?_
    refine G.aload_n (pc := 154) cx dX4_carryOut_154 rfl 0 rfl ?_
    refine G.iconst (pc := 155) cx dX4_carryOut_155 (v := 2) (by decide) ?_
    refine G.callV0 (pc := 156) (rest := [.int (u 1), .int (u 0), .ref (x + 32)]) (st1 := [.int (u 2), .int (u 1), .int (u 0), .ref (x + 32)]) cx (c_X4_number l K sz x z t h π f u g V 2 (by omega)) ok_X4_number dX4_carryOut_156 wm_ml_X4_49 rfl ww_o rfl rfl (Nat.le_of_ble_eq_true rfl) ⟨Nat.le_of_ble_eq_true rfl, Nat.le_of_ble_eq_true rfl⟩ rfl ?_
    refine G.cast (V' := (bw K (x + 32) t (ww K x z t h π f u g V))) (ww_b2 _).symm ?_
    refine G.callV0 (pc := 159) (rest := []) (st1 := [.int (if cNoSell t (u 0) (u 1) (u 2) < 0 then cNoSell t (u 0) (u 1) (u 2) else (u 2) * t (160 + 5 * (u 1).toNatClampNeg + 1))]) cx (c_X0_sellFromChest l K sz (x + 32) t (ww K x z t h π f u g V) (u 0) (u 1) (u 2) N (by assumption) (by omega)) ok_X0_sellFromChest dX4_carryOut_159 wm_ml_X4_61 rfl bw_b rfl rfl (Nat.le_of_ble_eq_true rfl) ⟨Nat.le_of_ble_eq_true rfl, Nat.le_of_ble_eq_true rfl⟩ rfl ?_
    refine G.cast (V' := (ww K x z (if cNoSell t (u 0) (u 1) (u 2) < 0 then t else cDoSell t (u 0).toNatClampNeg (u 1).toNatClampNeg (u 2)) h π f u g V)) (ww_b2 _) ?_
    refine G.iret (pc := 162) cx rfl dX4_carryOut_162 ?_ ?_ rfl
    · refine congrArg (fun x => some (Value.int x)) ?_
      (try clear hin9); (try clear cx); (try clear hN2); first | (simp [cOrdA, zNN_of hN h16]; done) | (simp [cOrdA, zNN_of hN h16, *]; done)
    · show _ = _
      (try clear hin9); (try clear cx); first | (simp [cOrdD, zNN_of hN h16]; done) | (simp [cOrdD, zNN_of hN h16, *]; done)
  refine G.tableDef (pc := 4) cx dX4_carryOut_4 (tgt := 238) ?_ (by decide) ?_
  · have g0 := sw_ne sw4_97 (by decide : (97 : Int) = (97 : Int32).toInt); have g1 := sw_ne sw4_98 (by decide : (98 : Int) = (98 : Int32).toInt); have g2 := sw_ne sw4_100 (by decide : (100 : Int) = (100 : Int32).toInt); have g3 := sw_ne sw4_102 (by decide : (102 : Int) = (102 : Int32).toInt); have g4 := sw_ne sw4_104 (by decide : (104 : Int) = (104 : Int32).toInt); have g5 := sw_ne sw4_108 (by decide : (108 : Int) = (108 : Int32).toInt); have g6 := sw_ne sw4_111 (by decide : (111 : Int) = (111 : Int32).toInt); have g7 := sw_ne sw4_112 (by decide : (112 : Int) = (112 : Int32).toInt); have g8 := sw_ne sw4_114 (by decide : (114 : Int) = (114 : Int32).toInt); have g9 := sw_ne sw4_118 (by decide : (118 : Int) = (118 : Int32).toInt)
    rcases (show q.toInt < 97 ∨ 118 < q.toInt ∨ q.toInt = 99 ∨ q.toInt = 101 ∨ q.toInt = 103 ∨ q.toInt = 105 ∨ q.toInt = 106 ∨ q.toInt = 107 ∨ q.toInt = 109 ∨ q.toInt = 110 ∨ q.toInt = 113 ∨ q.toInt = 115 ∨ q.toInt = 116 ∨ q.toInt = 117 by omega) with h | h | h | h | h | h | h | h | h | h | h | h | h | h
    · exact Or.inl h
    · exact Or.inr (Or.inl h)
    · exact Or.inr (Or.inr (by rw [h]; decide))
    · exact Or.inr (Or.inr (by rw [h]; decide))
    · exact Or.inr (Or.inr (by rw [h]; decide))
    · exact Or.inr (Or.inr (by rw [h]; decide))
    · exact Or.inr (Or.inr (by rw [h]; decide))
    · exact Or.inr (Or.inr (by rw [h]; decide))
    · exact Or.inr (Or.inr (by rw [h]; decide))
    · exact Or.inr (Or.inr (by rw [h]; decide))
    · exact Or.inr (Or.inr (by rw [h]; decide))
    · exact Or.inr (Or.inr (by rw [h]; decide))
    · exact Or.inr (Or.inr (by rw [h]; decide))
    · exact Or.inr (Or.inr (by rw [h]; decide))
  refine G.aload_n (pc := 238) cx dX4_carryOut_238 rfl 1 rfl ?_
  refine G.cast (V' := (bw K (x + 32) t (ww K x z t h π f u g V))) (ww_b2 _).symm ?_
  refine G.callV0 (pc := 239) (rest := []) (st1 := [.int (if cNoPO t < 0 then cNoPO t else cPOSum t N)]) cx (c_X0_endVoyage l K sz (x + 32) t (ww K x z t h π f u g V) N (by assumption) (by omega)) ok_X0_endVoyage dX4_carryOut_239 wm_ml_X4_86 rfl bw_b rfl rfl (Nat.le_of_ble_eq_true rfl) ⟨Nat.le_of_ble_eq_true rfl, Nat.le_of_ble_eq_true rfl⟩ rfl ?_
  refine G.cast (V' := (ww K x z (if cNoPO t < 0 then t else cDoPO t N) h π f u g V)) (ww_b2 _) ?_
  refine G.iret (pc := 242) cx rfl dX4_carryOut_242 ?_ ?_ rfl
  · refine congrArg (fun x => some (Value.int x)) ?_
    (try clear hin9); (try clear cx); (try clear hN2); first | (simp [cOrdA, zNN_of hN h16]; done) | (simp [cOrdA, zNN_of hN h16, *]; done)
  · show _ = _
    (try clear hin9); (try clear cx); first | (simp [cOrdD, zNN_of hN h16]; done) | (simp [cOrdD, zNN_of hN h16, *]; done)
set_option maxHeartbeats 4000000 in
set_option maxRecDepth 100000 in
theorem c_X5_isFaulty (l : Launch) (K : KT) (sz : Nat) (x : Nat) (z : Zt) (t : Zt) (h : Nat → Zt) (π : Nat → Nat) (f : Zt) (u : Zt) (g : Zt) (V : VW)  : Ct l K yX5_isFaulty cX5_isFaulty 1 (some .boolean) 0 [.ref (x + 191)] (ww K x z t h π f u g V) sz (some (.int (b2 (¬ g 4 = 0)))) (ww K x z t h π f u g V) sz 0 0 := by
  refine Ct.ofG (by decide) (Nat.le_of_ble_eq_true rfl) ?_
  intro p9 e9 s9 m9 a9 b9 t9 c9 cx hin9
  refine G.lv0 (lv2 := [(0, .ref (x + 191))]) rfl ?_
  refine G.aload_n (pc := 0) cx dX5_isFaulty_0 rfl 0 rfl ?_
  refine G.getV (pc := 1) cx dX5_isFaulty_1 (T := TX5) 3 wm_fl_X5_25 inlX5 rfl (by decide) ww_r rfl ?_
  refine G.if_eq (pc := 4) cx dX5_isFaulty_4 (tgt := 11) (by decide) (fun cq4 => ?_) (fun cq4 => ?_)
  · skip
    refine G.iconst (pc := 11) cx dX5_isFaulty_11 (v := 0) (by decide) ?_
    refine G.zret (pc := 12) cx rfl dX5_isFaulty_12 rfl ?_ ?_ rfl
    · refine congrArg (fun x => some (Value.int x)) ?_
      (try clear hin9); (try clear cx); first | rfl | (refine b2_t ?_; grind) | (refine b2_f ?_; grind) | (refine (b2_t ?_).symm; grind) | (refine (b2_f ?_).symm; grind) | (simp [*]; done) | (simp_all; done) | grind
    · rfl
  · skip
    refine G.iconst (pc := 7) cx dX5_isFaulty_7 (v := 1) (by decide) ?_
    refine G.goto (pc := 8) cx dX5_isFaulty_8 (tgt := 12) (by decide) ?_
    refine G.zret (pc := 12) cx rfl dX5_isFaulty_12 rfl ?_ ?_ rfl
    · refine congrArg (fun x => some (Value.int x)) ?_
      (try clear hin9); (try clear cx); first | rfl | (refine b2_t ?_; grind) | (refine b2_f ?_; grind) | (refine (b2_t ?_).symm; grind) | (refine (b2_f ?_).symm; grind) | (simp [*]; done) | (simp_all; done) | grind
    · rfl
set_option maxHeartbeats 4000000 in
set_option maxRecDepth 100000 in
theorem c_X5_tellFault (l : Launch) (K : KT) (sz : Nat) (x : Nat) (z : Zt) (t : Zt) (h : Nat → Zt) (π : Nat → Nat) (f : Zt) (u : Zt) (g : Zt) (V : VW) (q : Int32)  : Ct l K yX5_tellFault cX5_tellFault 2 (some .int) 1 [.ref (x + 191), .int q] (ww K x z t h π f u g V) sz (some (.int (cTellF g q))) (ww K x z t h π f u g V) sz 0 0 := by
  refine Ct.ofG (by decide) (Nat.le_of_ble_eq_true rfl) ?_
  intro p9 e9 s9 m9 a9 b9 t9 c9 cx hin9
  refine G.lv0 (lv2 := [(0, .ref (x + 191)), (1, .int q)]) rfl ?_
  refine G.aload_n (pc := 0) cx dX5_tellFault_0 rfl 0 rfl ?_
  refine G.callV0 (pc := 1) (rest := []) (st1 := [.int (b2 (¬ g 4 = 0))]) cx (c_X5_isFaulty l K sz x z t h π f u g V) ok_X5_isFaulty dX5_tellFault_1 wm_ml_X5_47 rfl ww_r rfl rfl (Nat.le_of_ble_eq_true rfl) ⟨Nat.le_of_ble_eq_true rfl, Nat.le_of_ble_eq_true rfl⟩ rfl ?_
  refine G.if_neB (pc := 4) cx dX5_tellFault_4 (tgt := 10) (by decide) (fun cq4 => ?_) (fun cq4 => ?_)
  · skip
    refine G.iload_n (pc := 10) cx dX5_tellFault_10 rfl 1 rfl ?_
    refine G.if_ne (pc := 11) cx dX5_tellFault_11 (tgt := 21) (by decide) (fun cq11 => ?_) (fun cq11 => ?_)
    · skip
      refine G.iload_n (pc := 21) cx dX5_tellFault_21 rfl 1 rfl ?_
      refine G.iconst (pc := 22) cx dX5_tellFault_22 (v := 1) (by decide) ?_
      refine G.icmp_ne (pc := 23) cx dX5_tellFault_23 (tgt := 33) (by decide) (fun cq23 => ?_) (fun cq23 => ?_)
      · skip
        refine G.aload_n (pc := 33) cx dX5_tellFault_33 rfl 0 rfl ?_
        refine G.getV (pc := 34) cx dX5_tellFault_34 (T := TX5) 4 wm_fl_X5_28 inlX5 rfl (by decide) ww_r rfl ?_
        refine G.iret (pc := 37) cx rfl dX5_tellFault_37 ?_ ?_ rfl
        · refine congrArg (fun x => some (Value.int x)) ?_
          (try clear hin9); (try clear cx); first | (simp [cTellF, *]; done) | (simp_all [cTellF]; done)
        · rfl
      · skip
        refine G.aload_n (pc := 26) cx dX5_tellFault_26 rfl 0 rfl ?_
        refine G.getV (pc := 27) cx dX5_tellFault_27 (T := TX5) 3 wm_fl_X5_25 inlX5 rfl (by decide) ww_r rfl ?_
        refine G.goto (pc := 30) cx dX5_tellFault_30 (tgt := 37) (by decide) ?_
        refine G.iret (pc := 37) cx rfl dX5_tellFault_37 ?_ ?_ rfl
        · refine congrArg (fun x => some (Value.int x)) ?_
          (try clear hin9); (try clear cx); first | (simp [cTellF, *]; done) | (simp_all [cTellF]; done)
        · rfl
    · skip
      refine G.aload_n (pc := 14) cx dX5_tellFault_14 rfl 0 rfl ?_
      refine G.getV (pc := 15) cx dX5_tellFault_15 (T := TX5) 2 wm_fl_X5_22 inlX5 rfl (by decide) ww_r rfl ?_
      refine G.goto (pc := 18) cx dX5_tellFault_18 (tgt := 37) (by decide) ?_
      refine G.iret (pc := 37) cx rfl dX5_tellFault_37 ?_ ?_ rfl
      · refine congrArg (fun x => some (Value.int x)) ?_
        (try clear hin9); (try clear cx); first | (simp [cTellF, *]; done) | (simp_all [cTellF]; done)
      · rfl
  · skip
    refine G.ldc (pc := 7) cx dX5_tellFault_7 (v := (-1000004)) wm_ct_X5_51 ?_
    refine G.iret (pc := 9) cx rfl dX5_tellFault_9 ?_ ?_ rfl
    · refine congrArg (fun x => some (Value.int x)) ?_
      (try clear hin9); (try clear cx); first | (simp [cTellF, *]; done) | (simp_all [cTellF]; done)
    · rfl
set_option maxHeartbeats 4000000 in
set_option maxRecDepth 100000 in
theorem c_X2_record (l : Launch) (K : KT) (sz : Nat) (x : Nat) (z : Zt) (t : Zt) (h : Nat → Zt) (π : Nat → Nat) (f : Zt) (u : Zt) (g : Zt) (V : VW) (m : Nat) (hm : g 0 = nI m) (hm4 : m ≤ 4) (hπ : ∀ k, k < 4 → π k < 4) (hz : z 191 = 0 ∨ z 191 = 1) : Ct l K yX2_record cX2_record 5 none 3 [.ref (x + 63), .ref (x + 1)] (ww K x z t h π f u g V) sz none (ww K x z t (hset h (π 3) z) (rotR π) f u (if m < 4 then upd g 0 (nI (m + 1)) else g) V) sz 0 0 := by
  refine Ct.ofG (by decide) (Nat.le_of_ble_eq_true rfl) ?_
  intro p9 e9 s9 m9 a9 b9 t9 c9 cx hin9
  refine G.lv0 (lv2 := [(0, .ref (x + 63)), (1, .ref (x + 1))]) rfl ?_
  have hp0 := hπ 0 (by decide)
  have hp3 := hπ 3 (by decide)
  have hp1 := hπ 1 (by decide)
  have hp2 := hπ 2 (by decide)
  refine G.aload_n (pc := 0) cx dX2_record_0 rfl 0 rfl ?_
  refine G.getV (pc := 1) cx dX2_record_1 (T := TX2) 0 wm_fl_X2_11 inlX2 rfl (by decide) ww_h rfl ?_
  refine G.alenV (pc := 4) cx dX2_record_4 3 rfl ww_ha (v := 4) rfl ?_
  refine G.iconst (pc := 5) cx dX2_record_5 (v := 1) (by decide) ?_
  refine G.isubV (pc := 6) cx dX2_record_6 (v := 3) (by decide) ?_
  refine G.istore_n (pc := 7) cx dX2_record_7 rfl (by decide) rfl ?_
  refine G.iload_n (pc := 8) cx dX2_record_8 rfl 0 rfl ?_
  refine G.if_geN (pc := 9) cx 3 (by omega) dX2_record_9 (tgt := 13) (by decide) ?_
  refine G.aload_n (pc := 13) cx dX2_record_13 rfl 1 rfl ?_
  refine G.getV (pc := 14) cx dX2_record_14 (T := TX2) 0 wm_fl_X2_11 inlX2 rfl (by decide) ww_h rfl ?_
  refine G.iload_n (pc := 17) cx dX2_record_17 rfl 0 rfl ?_
  refine G.aaldV (pc := 18) cx dX2_record_18 3 rfl ww_ha (j := 3) rfl (by omega) (by decide) rfl ?_
  refine G.astore_n (pc := 19) cx dX2_record_19 rfl (by decide) rfl ?_
  refine G.iload_n (pc := 20) cx dX2_record_20 rfl 1 rfl ?_
  refine G.istore (pc := 21) cx dX2_record_21 (by decide) rfl ?_
  refine G.iload (pc := 23) cx dX2_record_23 0 rfl ?_
  refine G.if_leN (pc := 25) cx 3 (by omega) dX2_record_25 (tgt := 50) (by decide) (fun h9 => by omega) (fun _ => ?_)
  refine G.aload_n (pc := 28) cx dX2_record_28 rfl 3 rfl ?_
  refine G.getV (pc := 29) cx dX2_record_29 (T := TX2) 0 wm_fl_X2_11 inlX2 rfl (by decide) ww_h rfl ?_
  refine G.iload (pc := 32) cx dX2_record_32 0 rfl ?_
  refine G.aload_n (pc := 34) cx dX2_record_34 rfl 3 rfl ?_
  refine G.getV (pc := 35) cx dX2_record_35 (T := TX2) 0 wm_fl_X2_11 inlX2 rfl (by decide) ww_h rfl ?_
  refine G.iload (pc := 38) cx dX2_record_38 0 rfl ?_
  refine G.iconst (pc := 40) cx dX2_record_40 (v := 1) (by decide) ?_
  refine G.isubV (pc := 41) cx dX2_record_41 (v := 2) (by decide) ?_
  refine G.aaldV (pc := 42) cx dX2_record_42 3 rfl ww_ha (j := 2) rfl (by omega) (by decide) rfl ?_
  refine G.aastH (pc := 43) cx dX2_record_43 3 (π 2) rfl (by omega) (by first | assumption | omega) ?_
  refine G.iinc (pc := 44) cx dX2_record_44 (v := 2) (k := 0) rfl (by decide) (by decide) rfl ?_
  refine G.goto (pc := 47) cx dX2_record_47 (tgt := 23) (by decide) ?_
  refine G.iload (pc := 23) cx dX2_record_23 0 rfl ?_
  refine G.if_leN (pc := 25) cx 2 (by omega) dX2_record_25 (tgt := 50) (by decide) (fun h9 => by omega) (fun _ => ?_)
  refine G.aload_n (pc := 28) cx dX2_record_28 rfl 3 rfl ?_
  refine G.getV (pc := 29) cx dX2_record_29 (T := TX2) 0 wm_fl_X2_11 inlX2 rfl (by decide) ww_h rfl ?_
  refine G.iload (pc := 32) cx dX2_record_32 0 rfl ?_
  refine G.aload_n (pc := 34) cx dX2_record_34 rfl 3 rfl ?_
  refine G.getV (pc := 35) cx dX2_record_35 (T := TX2) 0 wm_fl_X2_11 inlX2 rfl (by decide) ww_h rfl ?_
  refine G.iload (pc := 38) cx dX2_record_38 0 rfl ?_
  refine G.iconst (pc := 40) cx dX2_record_40 (v := 1) (by decide) ?_
  refine G.isubV (pc := 41) cx dX2_record_41 (v := 1) (by decide) ?_
  refine G.aaldV (pc := 42) cx dX2_record_42 3 rfl ww_ha (j := 1) rfl (by omega) (by decide) rfl ?_
  refine G.aastH (pc := 43) cx dX2_record_43 2 (π 1) rfl (by omega) (by first | assumption | omega) ?_
  refine G.iinc (pc := 44) cx dX2_record_44 (v := 1) (k := 0) rfl (by decide) (by decide) rfl ?_
  refine G.goto (pc := 47) cx dX2_record_47 (tgt := 23) (by decide) ?_
  refine G.iload (pc := 23) cx dX2_record_23 0 rfl ?_
  refine G.if_leN (pc := 25) cx 1 (by omega) dX2_record_25 (tgt := 50) (by decide) (fun h9 => by omega) (fun _ => ?_)
  refine G.aload_n (pc := 28) cx dX2_record_28 rfl 3 rfl ?_
  refine G.getV (pc := 29) cx dX2_record_29 (T := TX2) 0 wm_fl_X2_11 inlX2 rfl (by decide) ww_h rfl ?_
  refine G.iload (pc := 32) cx dX2_record_32 0 rfl ?_
  refine G.aload_n (pc := 34) cx dX2_record_34 rfl 3 rfl ?_
  refine G.getV (pc := 35) cx dX2_record_35 (T := TX2) 0 wm_fl_X2_11 inlX2 rfl (by decide) ww_h rfl ?_
  refine G.iload (pc := 38) cx dX2_record_38 0 rfl ?_
  refine G.iconst (pc := 40) cx dX2_record_40 (v := 1) (by decide) ?_
  refine G.isubV (pc := 41) cx dX2_record_41 (v := 0) (by decide) ?_
  refine G.aaldV (pc := 42) cx dX2_record_42 3 rfl ww_ha (j := 0) rfl (by omega) (by decide) rfl ?_
  refine G.aastH (pc := 43) cx dX2_record_43 1 (π 0) rfl (by omega) (by first | assumption | omega) ?_
  refine G.iinc (pc := 44) cx dX2_record_44 (v := 0) (k := 0) rfl (by decide) (by decide) rfl ?_
  refine G.goto (pc := 47) cx dX2_record_47 (tgt := 23) (by decide) ?_
  refine G.iload (pc := 23) cx dX2_record_23 0 rfl ?_
  refine G.if_leN (pc := 25) cx 0 (by omega) dX2_record_25 (tgt := 50) (by decide) (fun _ => ?_) (fun h9 => by omega)
  refine G.aload_n (pc := 50) cx dX2_record_50 rfl 3 rfl ?_
  refine G.getV (pc := 51) cx dX2_record_51 (T := TX2) 0 wm_fl_X2_11 inlX2 rfl (by decide) ww_h rfl ?_
  refine G.iconst (pc := 54) cx dX2_record_54 (v := 0) (by decide) ?_
  refine G.aload_n (pc := 55) cx dX2_record_55 rfl 1 rfl ?_
  refine G.aastH (pc := 56) cx dX2_record_56 0 (π 3) rfl (by omega) (by first | assumption | omega) ?_
  refine G.aload_n (pc := 57) cx dX2_record_57 rfl 1 rfl ?_
  refine G.aload_n (pc := 58) cx dX2_record_58 rfl 4 rfl ?_
  refine G.cast (V' := (bw K (x + 65 + 31 * (π 3)) (h (π 3)) (ww K x z t h (piset (piset (piset (piset π 3 (π 2)) 2 (π 1)) 1 (π 0)) 0 (π 3)) f u g V))) (ww_bh_self (by first | assumption | omega)).symm ?_
  refine G.callV0 (pc := 59) (rest := []) (st1 := []) cx (c_X0_copyFrom l K sz (x + 65 + 31 * (π 3)) (h (π 3)) (ww K x z t h (piset (piset (piset (piset π 3 (π 2)) 2 (π 1)) 1 (π 0)) 0 (π 3)) f u g V) (x + 1) z (by first | exact hA | (unfold apt; omega)) (by first | exact hO | exact ww_b1 _ | exact ww_b2 _ | exact ww_bh_self (by assumption)) (by exact hz)) ok_X0_copyFrom dX2_record_59 wm_ml_X2_18 rfl bw_b rfl rfl (Nat.le_of_ble_eq_true rfl) ⟨Nat.le_of_ble_eq_true rfl, Nat.le_of_ble_eq_true rfl⟩ rfl ?_
  refine G.cast (V' := (ww K x z t (hset h (π 3) z) (piset (piset (piset (piset π 3 (π 2)) 2 (π 1)) 1 (π 0)) 0 (π 3)) f u g V)) (ww_bh _ (by first | assumption | omega)) ?_
  refine G.aload_n (pc := 62) cx dX2_record_62 rfl 3 rfl ?_
  refine G.getV (pc := 63) cx dX2_record_63 (T := TX2) 1 wm_fl_X2_22 inlX2 rfl (by decide) ww_h (congrArg (fun x => some (Value.int x)) (hm)) ?_
  refine G.iconst (pc := 66) cx dX2_record_66 (v := 4) (by decide) ?_
  refine G.icmp_geN (pc := 67) cx m 4 (by omega) (by omega) dX2_record_67 (tgt := 80) (by decide) (fun cq67 => ?_) (fun cq67 => ?_)
  · skip
    refine G.vret (pc := 80) cx rfl dX2_record_80 rfl ?_ rfl
    · show _ = _
      (try clear hin9); (try clear cx); first | (rw [if_pos (by omega)]; rfl) | (rw [if_neg (by omega)]; rfl)
  · skip
    refine G.aload_n (pc := 70) cx dX2_record_70 rfl 3 rfl ?_
    refine G.dup (pc := 71) cx dX2_record_71 rfl ?_
    refine G.getV (pc := 72) cx dX2_record_72 (T := TX2) 1 wm_fl_X2_22 inlX2 rfl (by decide) ww_h (congrArg (fun x => some (Value.int x)) (hm)) ?_
    refine G.iconst (pc := 75) cx dX2_record_75 (v := 1) (by decide) ?_
    refine G.iaddN (pc := 76) cx dX2_record_76 m 1 ?_
    refine G.putKe (pc := 77) cx dX2_record_77 wm_fl_X2_22 ?_
    refine G.vret (pc := 80) cx rfl dX2_record_80 rfl ?_ rfl
    · show _ = _
      (try clear hin9); (try clear cx); first | (rw [if_pos (by omega)]; rfl) | (rw [if_neg (by omega)]; rfl)
set_option maxHeartbeats 4000000 in
set_option maxRecDepth 100000 in
theorem c_X2_restoreInto (l : Launch) (K : KT) (sz : Nat) (x : Nat) (z : Zt) (t : Zt) (h : Nat → Zt) (π : Nat → Nat) (f : Zt) (u : Zt) (g : Zt) (V : VW) (m : Nat) (hm : g 0 = nI m) (hm4 : m ≤ 4) (hπ : ∀ k, k < 4 → π k < 4) (hz : h (π 0) 191 = 0 ∨ h (π 0) 191 = 1) : Ct l K yX2_restoreInto cX2_restoreInto 5 (some .int) 3 [.ref (x + 63), .ref (x + 1)] (ww K x z t h π f u g V) sz (some (.int (if m = 0 then -1000002 else nI (m - 1)))) (ww K x (if m = 0 then z else h (π 0)) t h (if m = 0 then π else rotL π) f u (if m = 0 then g else upd g 0 (nI (m - 1))) V) sz 0 0 := by
  refine Ct.ofG (by decide) (Nat.le_of_ble_eq_true rfl) ?_
  intro p9 e9 s9 m9 a9 b9 t9 c9 cx hin9
  refine G.lv0 (lv2 := [(0, .ref (x + 63)), (1, .ref (x + 1))]) rfl ?_
  have hp0 := hπ 0 (by decide)
  have hp3 := hπ 3 (by decide)
  have hp1 := hπ 1 (by decide)
  have hp2 := hπ 2 (by decide)
  refine G.aload_n (pc := 0) cx dX2_restoreInto_0 rfl 0 rfl ?_
  refine G.getV (pc := 1) cx dX2_restoreInto_1 (T := TX2) 0 wm_fl_X2_11 inlX2 rfl (by decide) ww_h rfl ?_
  refine G.alenV (pc := 4) cx dX2_restoreInto_4 3 rfl ww_ha (v := 4) rfl ?_
  refine G.iconst (pc := 5) cx dX2_restoreInto_5 (v := 1) (by decide) ?_
  refine G.isubV (pc := 6) cx dX2_restoreInto_6 (v := 3) (by decide) ?_
  refine G.istore_n (pc := 7) cx dX2_restoreInto_7 rfl (by decide) rfl ?_
  refine G.aload_n (pc := 8) cx dX2_restoreInto_8 rfl 1 rfl ?_
  refine G.getV (pc := 9) cx dX2_restoreInto_9 (T := TX2) 1 wm_fl_X2_22 inlX2 rfl (by decide) ww_h (congrArg (fun x => some (Value.int x)) (hm)) ?_
  refine G.if_leN (pc := 12) cx m (by omega) dX2_restoreInto_12 (tgt := 19) (by decide) (fun cq12 => ?_) (fun cq12 => ?_)
  · skip
    refine G.ldc (pc := 19) cx dX2_restoreInto_19 (v := (-1000002)) wm_ct_X2_26 ?_
    refine G.iret (pc := 21) cx rfl dX2_restoreInto_21 ?_ ?_ rfl
    · refine congrArg (fun x => some (Value.int x)) ?_
      (try clear hin9); (try clear cx); first | exact if_pos (by omega) | exact if_neg (by omega)
    · show _ = _
      (try clear hin9); (try clear cx); first | (rw [if_pos (by omega), if_pos (by omega), if_pos (by omega)]; done) | (rw [if_neg (by omega), if_neg (by omega), if_neg (by omega)]; rfl)
  · skip
    refine G.iload_n (pc := 15) cx dX2_restoreInto_15 rfl 0 rfl ?_
    refine G.if_geN (pc := 16) cx 3 (by omega) dX2_restoreInto_16 (tgt := 22) (by decide) ?_
    refine G.aload_n (pc := 22) cx dX2_restoreInto_22 rfl 1 rfl ?_
    refine G.getV (pc := 23) cx dX2_restoreInto_23 (T := TX2) 0 wm_fl_X2_11 inlX2 rfl (by decide) ww_h rfl ?_
    refine G.iconst (pc := 26) cx dX2_restoreInto_26 (v := 0) (by decide) ?_
    refine G.aaldV (pc := 27) cx dX2_restoreInto_27 3 rfl ww_ha (j := 0) rfl (by omega) (by decide) rfl ?_
    refine G.astore_n (pc := 28) cx dX2_restoreInto_28 rfl (by decide) rfl ?_
    refine G.iconst (pc := 29) cx dX2_restoreInto_29 (v := 0) (by decide) ?_
    refine G.istore (pc := 30) cx dX2_restoreInto_30 (by decide) rfl ?_
    refine G.iload (pc := 32) cx dX2_restoreInto_32 0 rfl ?_
    refine G.iload_n (pc := 34) cx dX2_restoreInto_34 rfl 2 rfl ?_
    refine G.icmp_geN (pc := 35) cx 0 3 (by omega) (by omega) dX2_restoreInto_35 (tgt := 60) (by decide) (fun h9 => by omega) (fun _ => ?_)
    refine G.aload_n (pc := 38) cx dX2_restoreInto_38 rfl 3 rfl ?_
    refine G.getV (pc := 39) cx dX2_restoreInto_39 (T := TX2) 0 wm_fl_X2_11 inlX2 rfl (by decide) ww_h rfl ?_
    refine G.iload (pc := 42) cx dX2_restoreInto_42 0 rfl ?_
    refine G.aload_n (pc := 44) cx dX2_restoreInto_44 rfl 3 rfl ?_
    refine G.getV (pc := 45) cx dX2_restoreInto_45 (T := TX2) 0 wm_fl_X2_11 inlX2 rfl (by decide) ww_h rfl ?_
    refine G.iload (pc := 48) cx dX2_restoreInto_48 0 rfl ?_
    refine G.iconst (pc := 50) cx dX2_restoreInto_50 (v := 1) (by decide) ?_
    refine G.iaddV (pc := 51) cx dX2_restoreInto_51 (v := 1) (by decide) ?_
    refine G.aaldV (pc := 52) cx dX2_restoreInto_52 3 rfl ww_ha (j := 1) rfl (by omega) (by decide) rfl ?_
    refine G.aastH (pc := 53) cx dX2_restoreInto_53 0 (π 1) rfl (by omega) (by first | assumption | omega) ?_
    refine G.iinc (pc := 54) cx dX2_restoreInto_54 (v := 1) (k := 0) rfl (by decide) (by decide) rfl ?_
    refine G.goto (pc := 57) cx dX2_restoreInto_57 (tgt := 32) (by decide) ?_
    refine G.iload (pc := 32) cx dX2_restoreInto_32 0 rfl ?_
    refine G.iload_n (pc := 34) cx dX2_restoreInto_34 rfl 2 rfl ?_
    refine G.icmp_geN (pc := 35) cx 1 3 (by omega) (by omega) dX2_restoreInto_35 (tgt := 60) (by decide) (fun h9 => by omega) (fun _ => ?_)
    refine G.aload_n (pc := 38) cx dX2_restoreInto_38 rfl 3 rfl ?_
    refine G.getV (pc := 39) cx dX2_restoreInto_39 (T := TX2) 0 wm_fl_X2_11 inlX2 rfl (by decide) ww_h rfl ?_
    refine G.iload (pc := 42) cx dX2_restoreInto_42 0 rfl ?_
    refine G.aload_n (pc := 44) cx dX2_restoreInto_44 rfl 3 rfl ?_
    refine G.getV (pc := 45) cx dX2_restoreInto_45 (T := TX2) 0 wm_fl_X2_11 inlX2 rfl (by decide) ww_h rfl ?_
    refine G.iload (pc := 48) cx dX2_restoreInto_48 0 rfl ?_
    refine G.iconst (pc := 50) cx dX2_restoreInto_50 (v := 1) (by decide) ?_
    refine G.iaddV (pc := 51) cx dX2_restoreInto_51 (v := 2) (by decide) ?_
    refine G.aaldV (pc := 52) cx dX2_restoreInto_52 3 rfl ww_ha (j := 2) rfl (by omega) (by decide) rfl ?_
    refine G.aastH (pc := 53) cx dX2_restoreInto_53 1 (π 2) rfl (by omega) (by first | assumption | omega) ?_
    refine G.iinc (pc := 54) cx dX2_restoreInto_54 (v := 2) (k := 0) rfl (by decide) (by decide) rfl ?_
    refine G.goto (pc := 57) cx dX2_restoreInto_57 (tgt := 32) (by decide) ?_
    refine G.iload (pc := 32) cx dX2_restoreInto_32 0 rfl ?_
    refine G.iload_n (pc := 34) cx dX2_restoreInto_34 rfl 2 rfl ?_
    refine G.icmp_geN (pc := 35) cx 2 3 (by omega) (by omega) dX2_restoreInto_35 (tgt := 60) (by decide) (fun h9 => by omega) (fun _ => ?_)
    refine G.aload_n (pc := 38) cx dX2_restoreInto_38 rfl 3 rfl ?_
    refine G.getV (pc := 39) cx dX2_restoreInto_39 (T := TX2) 0 wm_fl_X2_11 inlX2 rfl (by decide) ww_h rfl ?_
    refine G.iload (pc := 42) cx dX2_restoreInto_42 0 rfl ?_
    refine G.aload_n (pc := 44) cx dX2_restoreInto_44 rfl 3 rfl ?_
    refine G.getV (pc := 45) cx dX2_restoreInto_45 (T := TX2) 0 wm_fl_X2_11 inlX2 rfl (by decide) ww_h rfl ?_
    refine G.iload (pc := 48) cx dX2_restoreInto_48 0 rfl ?_
    refine G.iconst (pc := 50) cx dX2_restoreInto_50 (v := 1) (by decide) ?_
    refine G.iaddV (pc := 51) cx dX2_restoreInto_51 (v := 3) (by decide) ?_
    refine G.aaldV (pc := 52) cx dX2_restoreInto_52 3 rfl ww_ha (j := 3) rfl (by omega) (by decide) rfl ?_
    refine G.aastH (pc := 53) cx dX2_restoreInto_53 2 (π 3) rfl (by omega) (by first | assumption | omega) ?_
    refine G.iinc (pc := 54) cx dX2_restoreInto_54 (v := 3) (k := 0) rfl (by decide) (by decide) rfl ?_
    refine G.goto (pc := 57) cx dX2_restoreInto_57 (tgt := 32) (by decide) ?_
    refine G.iload (pc := 32) cx dX2_restoreInto_32 0 rfl ?_
    refine G.iload_n (pc := 34) cx dX2_restoreInto_34 rfl 2 rfl ?_
    refine G.icmp_geN (pc := 35) cx 3 3 (by omega) (by omega) dX2_restoreInto_35 (tgt := 60) (by decide) (fun _ => ?_) (fun h9 => by omega)
    refine G.aload_n (pc := 60) cx dX2_restoreInto_60 rfl 3 rfl ?_
    refine G.getV (pc := 61) cx dX2_restoreInto_61 (T := TX2) 0 wm_fl_X2_11 inlX2 rfl (by decide) ww_h rfl ?_
    refine G.iload_n (pc := 64) cx dX2_restoreInto_64 rfl 2 rfl ?_
    refine G.aload_n (pc := 65) cx dX2_restoreInto_65 rfl 1 rfl ?_
    refine G.aastH (pc := 66) cx dX2_restoreInto_66 3 (π 0) rfl (by omega) (by first | assumption | omega) ?_
    refine G.aload_n (pc := 67) cx dX2_restoreInto_67 rfl 4 rfl ?_
    refine G.aload_n (pc := 68) cx dX2_restoreInto_68 rfl 1 rfl ?_
    refine G.cast (V' := (bw K (x + 1) z (ww K x z t h (piset (piset (piset (piset π 0 (π 1)) 1 (π 2)) 2 (π 3)) 3 (π 0)) f u g V))) (ww_b1 _).symm ?_
    refine G.callV0 (pc := 69) (rest := []) (st1 := []) cx (c_X0_copyFrom l K sz (x + 1) z (ww K x z t h (piset (piset (piset (piset π 0 (π 1)) 1 (π 2)) 2 (π 3)) 3 (π 0)) f u g V) (x + 65 + 31 * (π 0)) (h (π 0)) (by first | exact hA | (unfold apt; omega)) (by first | exact hO | exact ww_b1 _ | exact ww_b2 _ | exact ww_bh_self (by assumption)) (by exact hz)) ok_X0_copyFrom dX2_restoreInto_69 wm_ml_X2_18 rfl bw_b rfl rfl (Nat.le_of_ble_eq_true rfl) ⟨Nat.le_of_ble_eq_true rfl, Nat.le_of_ble_eq_true rfl⟩ rfl ?_
    refine G.cast (V' := (ww K x (h (π 0)) t h (piset (piset (piset (piset π 0 (π 1)) 1 (π 2)) 2 (π 3)) 3 (π 0)) f u g V)) (ww_b1 _) ?_
    refine G.aload_n (pc := 72) cx dX2_restoreInto_72 rfl 3 rfl ?_
    refine G.dup (pc := 73) cx dX2_restoreInto_73 rfl ?_
    refine G.getV (pc := 74) cx dX2_restoreInto_74 (T := TX2) 1 wm_fl_X2_22 inlX2 rfl (by decide) ww_h (congrArg (fun x => some (Value.int x)) (hm)) ?_
    refine G.iconst (pc := 77) cx dX2_restoreInto_77 (v := 1) (by decide) ?_
    refine G.isubN (pc := 78) cx dX2_restoreInto_78 m 1 (by omega) ?_
    refine G.putKe (pc := 79) cx dX2_restoreInto_79 wm_fl_X2_22 ?_
    refine G.aload_n (pc := 82) cx dX2_restoreInto_82 rfl 3 rfl ?_
    refine G.getV (pc := 83) cx dX2_restoreInto_83 (T := TX2) 1 wm_fl_X2_22 inlX2 rfl (by decide) ww_h (congrArg (fun x => some (Value.int x)) (upd_s g 0 (nI (m - 1)))) ?_
    refine G.iret (pc := 86) cx rfl dX2_restoreInto_86 ?_ ?_ rfl
    · refine congrArg (fun x => some (Value.int x)) ?_
      (try clear hin9); (try clear cx); first | exact if_pos (by omega) | exact if_neg (by omega)
    · show _ = _
      (try clear hin9); (try clear cx); first | (rw [if_pos (by omega), if_pos (by omega), if_pos (by omega)]; done) | (rw [if_neg (by omega), if_neg (by omega), if_neg (by omega)]; rfl)
