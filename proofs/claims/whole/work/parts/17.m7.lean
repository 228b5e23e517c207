set_option maxHeartbeats 4000000 in
set_option maxRecDepth 100000 in
theorem c_X10_noOrder (l : Launch) (K : KT) (sz : Nat) (o : Nat) (z : Zt) (r : Rt) (V : VW) (q : Int32) (N : Nat) (hq : r.2.2.2.2 2 = q) (hN : z 194 = nI N) (h16 : N ≤ 16) : Ct l K yX10_noOrder cX10_noOrder 1 (some .int) 5 [.ref o] (mw K o z r V) sz (some (.int (zNoOrd z q r.2.2.2.1))) (mw K o z r V) sz 0 0 := by
  refine Ct.ofG (by decide) (Nat.le_of_ble_eq_true rfl) ?_
  intro p9 e9 s9 m9 a9 b9 t9 c9 cx hin9
  refine G.lv0 (lv2 := [(0, .ref o)]) rfl ?_
  have hNN := zNN_of hN h16
  refine G.aload_n (pc := 0) cx dX10_noOrder_0 rfl 0 rfl ?_
  refine G.getM (pc := 1) cx dX10_noOrder_1 6 wm_fl_X10_196 (by decide) (congrArg (fun x => some (Value.int x)) (hq)) ?_
  by_cases sw4_97 : q = 97
  · subst sw4_97
    refine G.tableIn (pc := 4) cx dX10_noOrder_4 (off := 167) (tgt := 171) (by decide) (by decide) (by decide) (by decide) ?_
    refine G.aload_n (pc := 171) cx dX10_noOrder_171 rfl 0 rfl ?_
    refine G.aload_n (pc := 172) cx dX10_noOrder_172 rfl 0 rfl ?_
    refine G.getM (pc := 173) cx dX10_noOrder_173 7 wm_fl_X10_22 (by decide) rfl ?_
    refine G.iconst (pc := 176) cx dX10_noOrder_176 (v := 0) (by decide) ?_
    refine G.ialdV (pc := 177) cx dX10_noOrder_177 mw_nu (j := 0) rfl (by omega) (by decide) (cut_at (by omega)) ?_
    refine G.aload_n (pc := 178) cx dX10_noOrder_178 rfl 0 rfl ?_
    refine G.getM (pc := 179) cx dX10_noOrder_179 7 wm_fl_X10_22 (by decide) rfl ?_
    refine G.iconst (pc := 182) cx dX10_noOrder_182 (v := 1) (by decide) ?_
    refine G.ialdV (pc := 183) cx dX10_noOrder_183 mw_nu (j := 1) rfl (by omega) (by decide) (cut_at (by omega)) ?_
    refine G.callV0 (pc := 184) (rest := []) (st1 := [.int (zNoAdv z (r.2.2.2.1 0) (r.2.2.2.1 1))]) cx (c_X10_noAdvance l K sz o z r V (r.2.2.2.1 0) (r.2.2.2.1 1) N (by assumption) (by omega)) ok_X10_noAdvance dX10_noOrder_184 wm_ml_X10_113 rfl mw_m rfl rfl (Nat.le_of_ble_eq_true rfl) ⟨Nat.le_of_ble_eq_true rfl, Nat.le_of_ble_eq_true rfl⟩ rfl ?_
    refine G.iret (pc := 187) cx rfl dX10_noOrder_187 ?_ ?_ rfl
    · refine congrArg (fun x => some (Value.int x)) ?_
      (try clear hin9); (try clear cx); first | (simp [zNoOrd]; done) | (simp [zNoOrd, hNN]; done) | (simp [zNoOrd, *]; done)
    · rfl
  by_cases sw4_98 : q = 98
  · subst sw4_98
    refine G.tableIn (pc := 4) cx dX10_noOrder_4 (off := 121) (tgt := 125) (by decide) (by decide) (by decide) (by decide) ?_
    refine G.aload_n (pc := 125) cx dX10_noOrder_125 rfl 0 rfl ?_
    refine G.aload_n (pc := 126) cx dX10_noOrder_126 rfl 0 rfl ?_
    refine G.getM (pc := 127) cx dX10_noOrder_127 7 wm_fl_X10_22 (by decide) rfl ?_
    refine G.iconst (pc := 130) cx dX10_noOrder_130 (v := 0) (by decide) ?_
    refine G.ialdV (pc := 131) cx dX10_noOrder_131 mw_nu (j := 0) rfl (by omega) (by decide) (cut_at (by omega)) ?_
    refine G.aload_n (pc := 132) cx dX10_noOrder_132 rfl 0 rfl ?_
    refine G.getM (pc := 133) cx dX10_noOrder_133 7 wm_fl_X10_22 (by decide) rfl ?_
    refine G.iconst (pc := 136) cx dX10_noOrder_136 (v := 1) (by decide) ?_
    refine G.ialdV (pc := 137) cx dX10_noOrder_137 mw_nu (j := 1) rfl (by omega) (by decide) (cut_at (by omega)) ?_
    refine G.aload_n (pc := 138) cx dX10_noOrder_138 rfl 0 rfl ?_
    refine G.getM (pc := 139) cx dX10_noOrder_139 7 wm_fl_X10_22 (by decide) rfl ?_
    refine G.iconst (pc := 142) cx dX10_noOrder_142 (v := 2) (by decide) ?_
    refine G.ialdV (pc := 143) cx dX10_noOrder_143 mw_nu (j := 2) rfl (by omega) (by decide) (cut_at (by omega)) ?_
    refine G.callV0 (pc := 144) (rest := []) (st1 := [.int (zNoStock z (r.2.2.2.1 0) (r.2.2.2.1 1) (r.2.2.2.1 2))]) cx (c_X10_noStock l K sz o z r V (r.2.2.2.1 0) (r.2.2.2.1 1) (r.2.2.2.1 2)) ok_X10_noStock dX10_noOrder_144 wm_ml_X10_89 rfl mw_m rfl rfl (Nat.le_of_ble_eq_true rfl) ⟨Nat.le_of_ble_eq_true rfl, Nat.le_of_ble_eq_true rfl⟩ rfl ?_
    refine G.iret (pc := 147) cx rfl dX10_noOrder_147 ?_ ?_ rfl
    · refine congrArg (fun x => some (Value.int x)) ?_
      (try clear hin9); (try clear cx); first | (simp [zNoOrd]; done) | (simp [zNoOrd, hNN]; done) | (simp [zNoOrd, *]; done)
    · rfl
  by_cases sw4_100 : q = 100
  · subst sw4_100
    refine G.tableIn (pc := 4) cx dX10_noOrder_4 (off := 201) (tgt := 205) (by decide) (by decide) (by decide) (by decide) ?_
    refine G.aload_n (pc := 205) cx dX10_noOrder_205 rfl 0 rfl ?_
    refine G.aload_n (pc := 206) cx dX10_noOrder_206 rfl 0 rfl ?_
    refine G.getM (pc := 207) cx dX10_noOrder_207 7 wm_fl_X10_22 (by decide) rfl ?_
    refine G.iconst (pc := 210) cx dX10_noOrder_210 (v := 0) (by decide) ?_
    refine G.ialdV (pc := 211) cx dX10_noOrder_211 mw_nu (j := 0) rfl (by omega) (by decide) (cut_at (by omega)) ?_
    refine G.callV0 (pc := 212) (rest := []) (st1 := [.int (zNoDays z (r.2.2.2.1 0))]) cx (c_X10_noDays l K sz o z r V (r.2.2.2.1 0)) ok_X10_noDays dX10_noOrder_212 wm_ml_X10_166 rfl mw_m rfl rfl (Nat.le_of_ble_eq_true rfl) ⟨Nat.le_of_ble_eq_true rfl, Nat.le_of_ble_eq_true rfl⟩ rfl ?_
    refine G.iret (pc := 215) cx rfl dX10_noOrder_215 ?_ ?_ rfl
    · refine congrArg (fun x => some (Value.int x)) ?_
      (try clear hin9); (try clear cx); first | (simp [zNoOrd]; done) | (simp [zNoOrd, hNN]; done) | (simp [zNoOrd, *]; done)
    · rfl
  by_cases sw4_102 : q = 102
  · subst sw4_102
    refine G.tableIn (pc := 4) cx dX10_noOrder_4 (off := 184) (tgt := 188) (by decide) (by decide) (by decide) (by decide) ?_
    refine G.aload_n (pc := 188) cx dX10_noOrder_188 rfl 0 rfl ?_
    refine G.aload_n (pc := 189) cx dX10_noOrder_189 rfl 0 rfl ?_
    refine G.getM (pc := 190) cx dX10_noOrder_190 7 wm_fl_X10_22 (by decide) rfl ?_
    refine G.iconst (pc := 193) cx dX10_noOrder_193 (v := 0) (by decide) ?_
    refine G.ialdV (pc := 194) cx dX10_noOrder_194 mw_nu (j := 0) rfl (by omega) (by decide) (cut_at (by omega)) ?_
    refine G.aload_n (pc := 195) cx dX10_noOrder_195 rfl 0 rfl ?_
    refine G.getM (pc := 196) cx dX10_noOrder_196 7 wm_fl_X10_22 (by decide) rfl ?_
    refine G.iconst (pc := 199) cx dX10_noOrder_199 (v := 1) (by decide) ?_
    refine G.ialdV (pc := 200) cx dX10_noOrder_200 mw_nu (j := 1) rfl (by omega) (by decide) (cut_at (by omega)) ?_
    refine G.callV0 (pc := 201) (rest := []) (st1 := [.int (zNoFine z (r.2.2.2.1 0) (r.2.2.2.1 1))]) cx (c_X10_noFine l K sz o z r V (r.2.2.2.1 0) (r.2.2.2.1 1) N (by assumption) (by omega)) ok_X10_noFine dX10_noOrder_201 wm_ml_X10_119 rfl mw_m rfl rfl (Nat.le_of_ble_eq_true rfl) ⟨Nat.le_of_ble_eq_true rfl, Nat.le_of_ble_eq_true rfl⟩ rfl ?_
    refine G.iret (pc := 204) cx rfl dX10_noOrder_204 ?_ ?_ rfl
    · refine congrArg (fun x => some (Value.int x)) ?_
      (try clear hin9); (try clear cx); first | (simp [zNoOrd]; done) | (simp [zNoOrd, hNN]; done) | (simp [zNoOrd, *]; done)
    · rfl
  by_cases sw4_104 : q = 104
  · subst sw4_104
    refine G.tableIn (pc := 4) cx dX10_noOrder_4 (off := 104) (tgt := 108) (by decide) (by decide) (by decide) (by decide) ?_
    refine G.aload_n (pc := 108) cx dX10_noOrder_108 rfl 0 rfl ?_
    refine G.aload_n (pc := 109) cx dX10_noOrder_109 rfl 0 rfl ?_
    refine G.getM (pc := 110) cx dX10_noOrder_110 7 wm_fl_X10_22 (by decide) rfl ?_
    refine G.iconst (pc := 113) cx dX10_noOrder_113 (v := 0) (by decide) ?_
    refine G.ialdV (pc := 114) cx dX10_noOrder_114 mw_nu (j := 0) rfl (by omega) (by decide) (cut_at (by omega)) ?_
    refine G.aload_n (pc := 115) cx dX10_noOrder_115 rfl 0 rfl ?_
    refine G.getM (pc := 116) cx dX10_noOrder_116 7 wm_fl_X10_22 (by decide) rfl ?_
    refine G.iconst (pc := 119) cx dX10_noOrder_119 (v := 1) (by decide) ?_
    refine G.ialdV (pc := 120) cx dX10_noOrder_120 mw_nu (j := 1) rfl (by omega) (by decide) (cut_at (by omega)) ?_
    refine G.callV0 (pc := 121) (rest := []) (st1 := [.int (zNoSign z (r.2.2.2.1 0) (r.2.2.2.1 1))]) cx (c_X10_noSign l K sz o z r V (r.2.2.2.1 0) (r.2.2.2.1 1)) ok_X10_noSign dX10_noOrder_121 wm_ml_X10_73 rfl mw_m rfl rfl (Nat.le_of_ble_eq_true rfl) ⟨Nat.le_of_ble_eq_true rfl, Nat.le_of_ble_eq_true rfl⟩ rfl ?_
    refine G.iret (pc := 124) cx rfl dX10_noOrder_124 ?_ ?_ rfl
    · refine congrArg (fun x => some (Value.int x)) ?_
      (try clear hin9); (try clear cx); first | (simp [zNoOrd]; done) | (simp [zNoOrd, hNN]; done) | (simp [zNoOrd, *]; done)
    · rfl
  by_cases sw4_108 : q = 108
  · subst sw4_108
    refine G.tableIn (pc := 4) cx dX10_noOrder_4 (off := 212) (tgt := 216) (by decide) (by decide) (by decide) (by decide) ?_
    refine G.aload_n (pc := 216) cx dX10_noOrder_216 rfl 0 rfl ?_
    refine G.aload_n (pc := 217) cx dX10_noOrder_217 rfl 0 rfl ?_
    refine G.getM (pc := 218) cx dX10_noOrder_218 7 wm_fl_X10_22 (by decide) rfl ?_
    refine G.iconst (pc := 221) cx dX10_noOrder_221 (v := 0) (by decide) ?_
    refine G.ialdV (pc := 222) cx dX10_noOrder_222 mw_nu (j := 0) rfl (by omega) (by decide) (cut_at (by omega)) ?_
    refine G.callV0 (pc := 223) (rest := []) (st1 := [.int (zNoLeave z N (r.2.2.2.1 0))]) cx (c_X10_noLeave l K sz o z r V (r.2.2.2.1 0) N (by assumption) (by omega)) ok_X10_noLeave dX10_noOrder_223 wm_ml_X10_141 rfl mw_m rfl rfl (Nat.le_of_ble_eq_true rfl) ⟨Nat.le_of_ble_eq_true rfl, Nat.le_of_ble_eq_true rfl⟩ rfl ?_
    refine G.iret (pc := 226) cx rfl dX10_noOrder_226 ?_ ?_ rfl
    · refine congrArg (fun x => some (Value.int x)) ?_
      (try clear hin9); (try clear cx); first | (simp [zNoOrd]; done) | (simp [zNoOrd, hNN]; done) | (simp [zNoOrd, *]; done)
    · rfl
  by_cases sw4_111 : q = 111
  · subst sw4_111
    refine G.tableIn (pc := 4) cx dX10_noOrder_4 (off := 240) (tgt := 244) (by decide) (by decide) (by decide) (by decide) ?_
    refine G.aload_n (pc := 244) cx dX10_noOrder_244 rfl 0 rfl ?_
    refine G.callV0 (pc := 245) (rest := []) (st1 := [.int (zNoSail z)]) cx (c_X10_noSail l K sz o z r V) ok_X10_noSail dX10_noOrder_245 wm_ml_X10_153 rfl mw_m rfl rfl (Nat.le_of_ble_eq_true rfl) ⟨Nat.le_of_ble_eq_true rfl, Nat.le_of_ble_eq_true rfl⟩ rfl ?_
    refine G.iret (pc := 248) cx rfl dX10_noOrder_248 ?_ ?_ rfl
    · refine congrArg (fun x => some (Value.int x)) ?_
      (try clear hin9); (try clear cx); first | (simp [zNoOrd]; done) | (simp [zNoOrd, hNN]; done) | (simp [zNoOrd, *]; done)
    · rfl
  by_cases sw4_112 : q = 112
  · subst sw4_112
    refine G.tableIn (pc := 4) cx dX10_noOrder_4 (off := 245) (tgt := 249) (by decide) (by decide) (by decide) (by decide) ?_
    refine G.aload_n (pc := 249) cx dX10_noOrder_249 rfl 0 rfl ?_
    refine G.callV0 (pc := 250) (rest := []) (st1 := [.int (zNoPort z)]) cx (c_X10_noPort l K sz o z r V) ok_X10_noPort dX10_noOrder_250 wm_ml_X10_160 rfl mw_m rfl rfl (Nat.le_of_ble_eq_true rfl) ⟨Nat.le_of_ble_eq_true rfl, Nat.le_of_ble_eq_true rfl⟩ rfl ?_
    refine G.iret (pc := 253) cx rfl dX10_noOrder_253 ?_ ?_ rfl
    · refine congrArg (fun x => some (Value.int x)) ?_
      (try clear hin9); (try clear cx); first | (simp [zNoOrd]; done) | (simp [zNoOrd, hNN]; done) | (simp [zNoOrd, *]; done)
    · rfl
  by_cases sw4_114 : q = 114
  · subst sw4_114
    refine G.tableIn (pc := 4) cx dX10_noOrder_4 (off := 223) (tgt := 227) (by decide) (by decide) (by decide) (by decide) ?_
    refine G.aload_n (pc := 227) cx dX10_noOrder_227 rfl 0 rfl ?_
    refine G.aload_n (pc := 228) cx dX10_noOrder_228 rfl 0 rfl ?_
    refine G.getM (pc := 229) cx dX10_noOrder_229 7 wm_fl_X10_22 (by decide) rfl ?_
    refine G.iconst (pc := 232) cx dX10_noOrder_232 (v := 0) (by decide) ?_
    refine G.ialdV (pc := 233) cx dX10_noOrder_233 mw_nu (j := 0) rfl (by omega) (by decide) (cut_at (by omega)) ?_
    refine G.aload_n (pc := 234) cx dX10_noOrder_234 rfl 0 rfl ?_
    refine G.getM (pc := 235) cx dX10_noOrder_235 7 wm_fl_X10_22 (by decide) rfl ?_
    refine G.iconst (pc := 238) cx dX10_noOrder_238 (v := 1) (by decide) ?_
    refine G.ialdV (pc := 239) cx dX10_noOrder_239 mw_nu (j := 1) rfl (by omega) (by decide) (cut_at (by omega)) ?_
    refine G.callV0 (pc := 240) (rest := []) (st1 := [.int (zNoBack z (r.2.2.2.1 0) (r.2.2.2.1 1))]) cx (c_X10_noBack l K sz o z r V (r.2.2.2.1 0) (r.2.2.2.1 1) N (by assumption) (by omega)) ok_X10_noBack dX10_noOrder_240 wm_ml_X10_147 rfl mw_m rfl rfl (Nat.le_of_ble_eq_true rfl) ⟨Nat.le_of_ble_eq_true rfl, Nat.le_of_ble_eq_true rfl⟩ rfl ?_
    refine G.iret (pc := 243) cx rfl dX10_noOrder_243 ?_ ?_ rfl
    · refine congrArg (fun x => some (Value.int x)) ?_
      (try clear hin9); (try clear cx); first | (simp [zNoOrd]; done) | (simp [zNoOrd, hNN]; done) | (simp [zNoOrd, *]; done)
    · rfl
  by_cases sw4_118 : q = 118
  · subst sw4_118
    refine G.tableIn (pc := 4) cx dX10_noOrder_4 (off := 144) (tgt := 148) (by decide) (by decide) (by decide) (by decide) ?_
    refine G.aload_n (pc := 148) cx dX10_noOrder_148 rfl 0 rfl ?_
    refine G.aload_n (pc := 149) cx dX10_noOrder_149 rfl 0 rfl ?_
    refine G.getM (pc := 150) cx dX10_noOrder_150 7 wm_fl_X10_22 (by decide) rfl ?_
    refine G.iconst (pc := 153) cx dX10_noOrder_153 (v := 0) (by decide) ?_
    refine G.ialdV (pc := 154) cx dX10_noOrder_154 mw_nu (j := 0) rfl (by omega) (by decide) (cut_at (by omega)) ?_
    refine G.aload_n (pc := 155) cx dX10_noOrder_155 rfl 0 rfl ?_
    refine G.getM (pc := 156) cx dX10_noOrder_156 7 wm_fl_X10_22 (by decide) rfl ?_
    refine G.iconst (pc := 159) cx dX10_noOrder_159 (v := 1) (by decide) ?_
    refine G.ialdV (pc := 160) cx dX10_noOrder_160 mw_nu (j := 1) rfl (by omega) (by decide) (cut_at (by omega)) ?_
    refine G.aload_n (pc := 161) cx dX10_noOrder_161 rfl 0 rfl ?_
    refine G.getM (pc := 162) cx dX10_noOrder_162 7 wm_fl_X10_22 (by decide) rfl ?_
    refine G.iconst (pc := 165) cx dX10_noOrder_165 (v := 2) (by decide) ?_
    refine G.ialdV (pc := 166) cx dX10_noOrder_166 mw_nu (j := 2) rfl (by omega) (by decide) (cut_at (by omega)) ?_
    refine G.callV0 (pc := 167) (rest := []) (st1 := [.int (zNoSell z (r.2.2.2.1 0) (r.2.2.2.1 1) (r.2.2.2.1 2))]) cx (c_X10_noSell l K sz o z r V (r.2.2.2.1 0) (r.2.2.2.1 1) (r.2.2.2.1 2) N (by assumption) (by omega)) ok_X10_noSell dX10_noOrder_167 wm_ml_X10_107 rfl mw_m rfl rfl (Nat.le_of_ble_eq_true rfl) ⟨Nat.le_of_ble_eq_true rfl, Nat.le_of_ble_eq_true rfl⟩ rfl ?_
    refine G.iret (pc := 170) cx rfl dX10_noOrder_170 ?_ ?_ rfl
    · refine congrArg (fun x => some (Value.int x)) ?_
      (try clear hin9); (try clear cx); first | (simp [zNoOrd]; done) | (simp [zNoOrd, hNN]; done) | (simp [zNoOrd, *]; done)
    · rfl
  refine G.tableDef (pc := 4) cx dX10_noOrder_4 (tgt := 254) ?_ (by decide) ?_
  · have g0 := sw_ne sw4_97 (by decide : (97 : Int) = (97 : Int32).toInt); have g1 := sw_ne sw4_98 (by decide : (98 : Int) = (98 : Int32).toInt); have g2 := sw_ne sw4_100 (by decide : (100 : Int) = (100 : Int32).toInt); have g3 := sw_ne sw4_102 (by decide : (102 : Int) = (102 : Int32).toInt); have g4 := sw_ne sw4_104 (by decide : (104 : Int) = (104 : Int32).toInt); have g5 := sw_ne sw4_108 (by decide : (108 : Int) = (108 : Int32).toInt); have g6 := sw_ne sw4_111 (by decide : (111 : Int) = (111 : Int32).toInt); have g7 := sw_ne sw4_112 (by decide : (112 : Int) = (112 : Int32).toInt); have g8 := sw_ne sw4_114 (by decide : (114 : Int) = (114 : Int32).toInt); have g9 := sw_ne sw4_118 (by decide : (118 : Int) = (118 : Int32).toInt)
    rcases (show q.toInt < 97 ∨ 118 < q.toInt ∨ q.toInt = 99 ∨ q.toInt = 101 ∨ q.toInt = 103 ∨ q.toInt = 105 ∨ q.toInt = 106 ∨ q.toInt = 107 ∨ q.toInt = 109 ∨ q.toInt = 110 ∨ q.toInt = 113 ∨ q.toInt = 115 ∨ q.toInt = 116 ∨ q.toInt = 117 by omega) with h | h | h | h | h | h | h | h | h | h | h | h | h | h
    · exact Or.inl h
    · exact Or.inr (Or.inl h)
    · exact Or.inr (Or.inr (by rw [h]; decide))
    · exact Or.inr (Or.inr (by rw [h]; decide))
    · exact Or.inr (Or.inr (by rw [h]; decide))
    · exact Or.inr (Or.inr (by rw [h]; decide))
    · exact Or.inr (Or.inr (by rw [h]; decide))
    · exact Or.inr (Or.inr (by rw [h]; decide))
    · exact Or.inr (Or.inr (by rw [h]; decide))
    · exact Or.inr (Or.inr (by rw [h]; decide))
    · exact Or.inr (Or.inr (by rw [h]; decide))
    · exact Or.inr (Or.inr (by rw [h]; decide))
    · exact Or.inr (Or.inr (by rw [h]; decide))
    · exact Or.inr (Or.inr (by rw [h]; decide))
  refine G.aload_n (pc := 254) cx dX10_noOrder_254 rfl 0 rfl ?_
  refine G.callV0 (pc := 255) (rest := []) (st1 := [.int (zNoPO z)]) cx (c_X10_noPayOff l K sz o z r V) ok_X10_noPayOff dX10_noOrder_255 wm_ml_X10_176 rfl mw_m rfl rfl (Nat.le_of_ble_eq_true rfl) ⟨Nat.le_of_ble_eq_true rfl, Nat.le_of_ble_eq_true rfl⟩ rfl ?_
  refine G.iret (pc := 258) cx rfl dX10_noOrder_258 ?_ ?_ rfl
  · refine congrArg (fun x => some (Value.int x)) ?_
    (try clear hin9); (try clear cx); first | (simp [zNoOrd]; done) | (simp [zNoOrd, hNN]; done) | (simp [zNoOrd, *]; done)
  · rfl
set_option maxHeartbeats 4000000 in
set_option maxRecDepth 100000 in
theorem c_X10_doOrder (l : Launch) (K : KT) (sz : Nat) (o : Nat) (z : Zt) (r : Rt) (V : VW) (q : Int32) (N : Nat) (hq : r.2.2.2.2 2 = q) (hN : z 194 = nI N) (h16 : N ≤ 16) (hok : 0 ≤ zNoOrd z q r.2.2.2.1) : Ct l K yX10_doOrder cX10_doOrder 1 (some .int) 5 [.ref o] (mw K o z r V) sz (some (.int (zOrdR z q r.2.2.2.1))) (mw K o (zDoOrd z q r.2.2.2.1) r V) sz 0 0 := by
  refine Ct.ofG (by decide) (Nat.le_of_ble_eq_true rfl) ?_
  intro p9 e9 s9 m9 a9 b9 t9 c9 cx hin9
  refine G.lv0 (lv2 := [(0, .ref o)]) rfl ?_
  have hNN := zNN_of hN h16
  refine G.aload_n (pc := 0) cx dX10_doOrder_0 rfl 0 rfl ?_
  refine G.getM (pc := 1) cx dX10_doOrder_1 6 wm_fl_X10_196 (by decide) (congrArg (fun x => some (Value.int x)) (hq)) ?_
  by_cases sw4_97 : q = 97
  · subst sw4_97
    refine G.tableIn (pc := 4) cx dX10_doOrder_4 (off := 167) (tgt := 171) (by decide) (by decide) (by decide) (by decide) ?_
    have ho : 0 ≤ zNoAdv z (r.2.2.2.1 0) (r.2.2.2.1 1) := by simpa [zNoOrd] using hok
    obtain ⟨k, hk, ek⟩ := sail_of hN h16 (zNoAdv_ok ho)
    have tk : (r.2.2.2.1 0).toNatClampNeg = k := by rw [ek]; exact nI_clamp (by omega)
    refine G.aload_n (pc := 171) cx dX10_doOrder_171 rfl 0 rfl ?_
    refine G.aload_n (pc := 172) cx dX10_doOrder_172 rfl 0 rfl ?_
    refine G.getM (pc := 173) cx dX10_doOrder_173 7 wm_fl_X10_22 (by decide) rfl ?_
    refine G.iconst (pc := 176) cx dX10_doOrder_176 (v := 0) (by decide) ?_
    refine G.ialdV (pc := 177) cx dX10_doOrder_177 mw_nu (j := 0) rfl (by omega) (by decide) ((cut_at (by omega)).trans (ek)) ?_
    refine G.aload_n (pc := 178) cx dX10_doOrder_178 rfl 0 rfl ?_
    refine G.getM (pc := 179) cx dX10_doOrder_179 7 wm_fl_X10_22 (by decide) rfl ?_
    refine G.iconst (pc := 182) cx dX10_doOrder_182 (v := 1) (by decide) ?_
    refine G.ialdV (pc := 183) cx dX10_doOrder_183 mw_nu (j := 1) rfl (by omega) (by decide) (cut_at (by omega)) ?_
    refine G.callV0 (pc := 184) (rest := []) (st1 := [.int (zDoAdv z k (r.2.2.2.1 1) 195)]) cx (c_X10_doAdvance l K sz o z r V k (r.2.2.2.1 1) (by omega)) ok_X10_doAdvance dX10_doOrder_184 wm_ml_X10_116 rfl mw_m rfl rfl (Nat.le_of_ble_eq_true rfl) ⟨Nat.le_of_ble_eq_true rfl, Nat.le_of_ble_eq_true rfl⟩ rfl ?_
    refine G.iret (pc := 187) cx rfl dX10_doOrder_187 ?_ ?_ rfl
    · refine congrArg (fun x => some (Value.int x)) ?_
      (try clear hin9); (try clear cx); first | (simp [zOrdR, *]; done) | (simp_all [zOrdR]; done)
    · refine congrArg (fun x => mw K o x r V) ?_
      (try clear hin9); (try clear cx); first | (simp [zDoOrd, *]; done) | (simp_all [zDoOrd]; done)
  by_cases sw4_98 : q = 98
  · subst sw4_98
    refine G.tableIn (pc := 4) cx dX10_doOrder_4 (off := 121) (tgt := 125) (by decide) (by decide) (by decide) (by decide) ?_
    have ho : 0 ≤ zNoStock z (r.2.2.2.1 0) (r.2.2.2.1 1) (r.2.2.2.1 2) := by simpa [zNoOrd] using hok
    obtain ⟨j, hj, ej⟩ := item_of (zNoStock_ok ho)
    have tj : (r.2.2.2.1 0).toNatClampNeg = j := by rw [ej]; exact nI_clamp (by omega)
    refine G.aload_n (pc := 125) cx dX10_doOrder_125 rfl 0 rfl ?_
    refine G.aload_n (pc := 126) cx dX10_doOrder_126 rfl 0 rfl ?_
    refine G.getM (pc := 127) cx dX10_doOrder_127 7 wm_fl_X10_22 (by decide) rfl ?_
    refine G.iconst (pc := 130) cx dX10_doOrder_130 (v := 0) (by decide) ?_
    refine G.ialdV (pc := 131) cx dX10_doOrder_131 mw_nu (j := 0) rfl (by omega) (by decide) ((cut_at (by omega)).trans (ej)) ?_
    refine G.aload_n (pc := 132) cx dX10_doOrder_132 rfl 0 rfl ?_
    refine G.getM (pc := 133) cx dX10_doOrder_133 7 wm_fl_X10_22 (by decide) rfl ?_
    refine G.iconst (pc := 136) cx dX10_doOrder_136 (v := 1) (by decide) ?_
    refine G.ialdV (pc := 137) cx dX10_doOrder_137 mw_nu (j := 1) rfl (by omega) (by decide) (cut_at (by omega)) ?_
    refine G.aload_n (pc := 138) cx dX10_doOrder_138 rfl 0 rfl ?_
    refine G.getM (pc := 139) cx dX10_doOrder_139 7 wm_fl_X10_22 (by decide) rfl ?_
    refine G.iconst (pc := 142) cx dX10_doOrder_142 (v := 2) (by decide) ?_
    refine G.ialdV (pc := 143) cx dX10_doOrder_143 mw_nu (j := 2) rfl (by omega) (by decide) (cut_at (by omega)) ?_
    refine G.callV0 (pc := 144) (rest := []) (st1 := [.int (zPrice z (r.2.2.2.1 2))]) cx (c_X10_doStock l K sz o z r V j (r.2.2.2.1 1) (r.2.2.2.1 2) (by omega)) ok_X10_doStock dX10_doOrder_144 wm_ml_X10_92 rfl mw_m rfl rfl (Nat.le_of_ble_eq_true rfl) ⟨Nat.le_of_ble_eq_true rfl, Nat.le_of_ble_eq_true rfl⟩ rfl ?_
    refine G.iret (pc := 147) cx rfl dX10_doOrder_147 ?_ ?_ rfl
    · refine congrArg (fun x => some (Value.int x)) ?_
      (try clear hin9); (try clear cx); first | (simp [zOrdR, *]; done) | (simp_all [zOrdR]; done)
    · refine congrArg (fun x => mw K o x r V) ?_
      (try clear hin9); (try clear cx); first | (simp [zDoOrd, *]; done) | (simp_all [zDoOrd]; done)
  by_cases sw4_100 : q = 100
  · subst sw4_100
    refine G.tableIn (pc := 4) cx dX10_doOrder_4 (off := 201) (tgt := 205) (by decide) (by decide) (by decide) (by decide) ?_
    refine G.aload_n (pc := 205) cx dX10_doOrder_205 rfl 0 rfl ?_
    refine G.aload_n (pc := 206) cx dX10_doOrder_206 rfl 0 rfl ?_
    refine G.getM (pc := 207) cx dX10_doOrder_207 7 wm_fl_X10_22 (by decide) rfl ?_
    refine G.iconst (pc := 210) cx dX10_doOrder_210 (v := 0) (by decide) ?_
    refine G.ialdV (pc := 211) cx dX10_doOrder_211 mw_nu (j := 0) rfl (by omega) (by decide) (cut_at (by omega)) ?_
    refine G.callV0 (pc := 212) (rest := []) (st1 := [.int (z 192 + (r.2.2.2.1 0))]) cx (c_X10_doDays l K sz o z r V (r.2.2.2.1 0) N (by assumption) (by omega)) ok_X10_doDays dX10_doOrder_212 wm_ml_X10_169 rfl mw_m rfl rfl (Nat.le_of_ble_eq_true rfl) ⟨Nat.le_of_ble_eq_true rfl, Nat.le_of_ble_eq_true rfl⟩ rfl ?_
    refine G.iret (pc := 215) cx rfl dX10_doOrder_215 ?_ ?_ rfl
    · refine congrArg (fun x => some (Value.int x)) ?_
      (try clear hin9); (try clear cx); first | (simp [zOrdR, *]; done) | (simp_all [zOrdR]; done)
    · refine congrArg (fun x => mw K o x r V) ?_
      (try clear hin9); (try clear cx); first | (simp [zDoOrd, *]; done) | (simp_all [zDoOrd]; done)
  by_cases sw4_102 : q = 102
  · subst sw4_102
    refine G.tableIn (pc := 4) cx dX10_doOrder_4 (off := 184) (tgt := 188) (by decide) (by decide) (by decide) (by decide) ?_
    have ho : 0 ≤ zNoFine z (r.2.2.2.1 0) (r.2.2.2.1 1) := by simpa [zNoOrd] using hok
    obtain ⟨k, hk, ek⟩ := sail_of hN h16 (zNoFine_ok ho)
    have tk : (r.2.2.2.1 0).toNatClampNeg = k := by rw [ek]; exact nI_clamp (by omega)
    refine G.aload_n (pc := 188) cx dX10_doOrder_188 rfl 0 rfl ?_
    refine G.aload_n (pc := 189) cx dX10_doOrder_189 rfl 0 rfl ?_
    refine G.getM (pc := 190) cx dX10_doOrder_190 7 wm_fl_X10_22 (by decide) rfl ?_
    refine G.iconst (pc := 193) cx dX10_doOrder_193 (v := 0) (by decide) ?_
    refine G.ialdV (pc := 194) cx dX10_doOrder_194 mw_nu (j := 0) rfl (by omega) (by decide) ((cut_at (by omega)).trans (ek)) ?_
    refine G.aload_n (pc := 195) cx dX10_doOrder_195 rfl 0 rfl ?_
    refine G.getM (pc := 196) cx dX10_doOrder_196 7 wm_fl_X10_22 (by decide) rfl ?_
    refine G.iconst (pc := 199) cx dX10_doOrder_199 (v := 1) (by decide) ?_
    refine G.ialdV (pc := 200) cx dX10_doOrder_200 mw_nu (j := 1) rfl (by omega) (by decide) (cut_at (by omega)) ?_
    refine G.callV0 (pc := 201) (rest := []) (st1 := [.int (5000 + zBal (zDoFine z k (r.2.2.2.1 1)) k)]) cx (c_X10_doFine l K sz o z r V k (r.2.2.2.1 1) (by omega)) ok_X10_doFine dX10_doOrder_201 wm_ml_X10_122 rfl mw_m rfl rfl (Nat.le_of_ble_eq_true rfl) ⟨Nat.le_of_ble_eq_true rfl, Nat.le_of_ble_eq_true rfl⟩ rfl ?_
    refine G.iret (pc := 204) cx rfl dX10_doOrder_204 ?_ ?_ rfl
    · refine congrArg (fun x => some (Value.int x)) ?_
      (try clear hin9); (try clear cx); first | (simp [zOrdR, *]; done) | (simp_all [zOrdR]; done)
    · refine congrArg (fun x => mw K o x r V) ?_
      (try clear hin9); (try clear cx); first | (simp [zDoOrd, *]; done) | (simp_all [zDoOrd]; done)
  by_cases sw4_104 : q = 104
  · subst sw4_104
    refine G.tableIn (pc := 4) cx dX10_doOrder_4 (off := 104) (tgt := 108) (by decide) (by decide) (by decide) (by decide) ?_
    have ho : 0 ≤ zNoSign z (r.2.2.2.1 0) (r.2.2.2.1 1) := by simpa [zNoOrd] using hok
    have hl := zNoSign_ok hN h16 ho
    refine G.aload_n (pc := 108) cx dX10_doOrder_108 rfl 0 rfl ?_
    refine G.aload_n (pc := 109) cx dX10_doOrder_109 rfl 0 rfl ?_
    refine G.getM (pc := 110) cx dX10_doOrder_110 7 wm_fl_X10_22 (by decide) rfl ?_
    refine G.iconst (pc := 113) cx dX10_doOrder_113 (v := 0) (by decide) ?_
    refine G.ialdV (pc := 114) cx dX10_doOrder_114 mw_nu (j := 0) rfl (by omega) (by decide) (cut_at (by omega)) ?_
    refine G.aload_n (pc := 115) cx dX10_doOrder_115 rfl 0 rfl ?_
    refine G.getM (pc := 116) cx dX10_doOrder_116 7 wm_fl_X10_22 (by decide) rfl ?_
    refine G.iconst (pc := 119) cx dX10_doOrder_119 (v := 1) (by decide) ?_
    refine G.ialdV (pc := 120) cx dX10_doOrder_120 mw_nu (j := 1) rfl (by omega) (by decide) (cut_at (by omega)) ?_
    refine G.callV0 (pc := 121) (rest := []) (st1 := [.int (nI N)]) cx (c_X10_doSign l K sz o z r V (r.2.2.2.1 0) (r.2.2.2.1 1) N (by assumption) (by omega) (by omega)) ok_X10_doSign dX10_doOrder_121 wm_ml_X10_80 rfl mw_m rfl rfl (Nat.le_of_ble_eq_true rfl) ⟨Nat.le_of_ble_eq_true rfl, Nat.le_of_ble_eq_true rfl⟩ rfl ?_
    refine G.iret (pc := 124) cx rfl dX10_doOrder_124 ?_ ?_ rfl
    · refine congrArg (fun x => some (Value.int x)) ?_
      (try clear hin9); (try clear cx); first | (simp [zOrdR, *]; done) | (simp_all [zOrdR]; done)
    · refine congrArg (fun x => mw K o x r V) ?_
      (try clear hin9); (try clear cx); first | (simp [zDoOrd, *]; done) | (simp_all [zDoOrd]; done)
  by_cases sw4_108 : q = 108
  · subst sw4_108
    refine G.tableIn (pc := 4) cx dX10_doOrder_4 (off := 212) (tgt := 216) (by decide) (by decide) (by decide) (by decide) ?_
    refine G.aload_n (pc := 216) cx dX10_doOrder_216 rfl 0 rfl ?_
    refine G.aload_n (pc := 217) cx dX10_doOrder_217 rfl 0 rfl ?_
    refine G.getM (pc := 218) cx dX10_doOrder_218 7 wm_fl_X10_22 (by decide) rfl ?_
    refine G.iconst (pc := 221) cx dX10_doOrder_221 (v := 0) (by decide) ?_
    refine G.ialdV (pc := 222) cx dX10_doOrder_222 mw_nu (j := 0) rfl (by omega) (by decide) (cut_at (by omega)) ?_
    refine G.callV0 (pc := 223) (rest := []) (st1 := [.int (nI (zAbo z (r.2.2.2.1 0) N))]) cx (c_X10_doLeave l K sz o z r V (r.2.2.2.1 0) N (by assumption) (by omega)) ok_X10_doLeave dX10_doOrder_223 wm_ml_X10_144 rfl mw_m rfl rfl (Nat.le_of_ble_eq_true rfl) ⟨Nat.le_of_ble_eq_true rfl, Nat.le_of_ble_eq_true rfl⟩ rfl ?_
    refine G.iret (pc := 226) cx rfl dX10_doOrder_226 ?_ ?_ rfl
    · refine congrArg (fun x => some (Value.int x)) ?_
      (try clear hin9); (try clear cx); first | (simp [zOrdR, *]; done) | (simp_all [zOrdR]; done)
    · refine congrArg (fun x => mw K o x r V) ?_
      (try clear hin9); (try clear cx); first | (simp [zDoOrd, *]; done) | (simp_all [zDoOrd]; done)
  by_cases sw4_111 : q = 111
  · subst sw4_111
    refine G.tableIn (pc := 4) cx dX10_doOrder_4 (off := 240) (tgt := 244) (by decide) (by decide) (by decide) (by decide) ?_
    refine G.aload_n (pc := 244) cx dX10_doOrder_244 rfl 0 rfl ?_
    refine G.callV0 (pc := 245) (rest := []) (st1 := [.int (nI (zLeft z N))]) cx (c_X10_doSail l K sz o z r V N (by assumption) (by omega)) ok_X10_doSail dX10_doOrder_245 wm_ml_X10_157 rfl mw_m rfl rfl (Nat.le_of_ble_eq_true rfl) ⟨Nat.le_of_ble_eq_true rfl, Nat.le_of_ble_eq_true rfl⟩ rfl ?_
    refine G.iret (pc := 248) cx rfl dX10_doOrder_248 ?_ ?_ rfl
    · refine congrArg (fun x => some (Value.int x)) ?_
      (try clear hin9); (try clear cx); first | (simp [zOrdR, *]; done) | (simp_all [zOrdR]; done)
    · refine congrArg (fun x => mw K o x r V) ?_
      (try clear hin9); (try clear cx); first | (simp [zDoOrd, *]; done) | (simp_all [zDoOrd]; done)
  by_cases sw4_112 : q = 112
  · subst sw4_112
    refine G.tableIn (pc := 4) cx dX10_doOrder_4 (off := 245) (tgt := 249) (by decide) (by decide) (by decide) (by decide) ?_
    refine G.aload_n (pc := 249) cx dX10_doOrder_249 rfl 0 rfl ?_
    refine G.callV0 (pc := 250) (rest := []) (st1 := [.int (z 193 + 1)]) cx (c_X10_doPort l K sz o z r V) ok_X10_doPort dX10_doOrder_250 wm_ml_X10_163 rfl mw_m rfl rfl (Nat.le_of_ble_eq_true rfl) ⟨Nat.le_of_ble_eq_true rfl, Nat.le_of_ble_eq_true rfl⟩ rfl ?_
    refine G.iret (pc := 253) cx rfl dX10_doOrder_253 ?_ ?_ rfl
    · refine congrArg (fun x => some (Value.int x)) ?_
      (try clear hin9); (try clear cx); first | (simp [zOrdR, *]; done) | (simp_all [zOrdR]; done)
    · refine congrArg (fun x => mw K o x r V) ?_
      (try clear hin9); (try clear cx); first | (simp [zDoOrd, *]; done) | (simp_all [zDoOrd]; done)
  by_cases sw4_114 : q = 114
  · subst sw4_114
    refine G.tableIn (pc := 4) cx dX10_doOrder_4 (off := 223) (tgt := 227) (by decide) (by decide) (by decide) (by decide) ?_
    have ho : 0 ≤ zNoBack z (r.2.2.2.1 0) (r.2.2.2.1 1) := by simpa [zNoOrd] using hok
    obtain ⟨k, hk, ek⟩ := sail_of hN h16 (zNoBack_ok ho)
    have tk : (r.2.2.2.1 0).toNatClampNeg = k := by rw [ek]; exact nI_clamp (by omega)
    refine G.aload_n (pc := 227) cx dX10_doOrder_227 rfl 0 rfl ?_
    refine G.aload_n (pc := 228) cx dX10_doOrder_228 rfl 0 rfl ?_
    refine G.getM (pc := 229) cx dX10_doOrder_229 7 wm_fl_X10_22 (by decide) rfl ?_
    refine G.iconst (pc := 232) cx dX10_doOrder_232 (v := 0) (by decide) ?_
    refine G.ialdV (pc := 233) cx dX10_doOrder_233 mw_nu (j := 0) rfl (by omega) (by decide) ((cut_at (by omega)).trans (ek)) ?_
    refine G.aload_n (pc := 234) cx dX10_doOrder_234 rfl 0 rfl ?_
    refine G.getM (pc := 235) cx dX10_doOrder_235 7 wm_fl_X10_22 (by decide) rfl ?_
    refine G.iconst (pc := 238) cx dX10_doOrder_238 (v := 1) (by decide) ?_
    refine G.ialdV (pc := 239) cx dX10_doOrder_239 mw_nu (j := 1) rfl (by omega) (by decide) (cut_at (by omega)) ?_
    refine G.callV0 (pc := 240) (rest := []) (st1 := [.int ((r.2.2.2.1 1) * z 205)]) cx (c_X10_doBack l K sz o z r V k (r.2.2.2.1 1) (by omega)) ok_X10_doBack dX10_doOrder_240 wm_ml_X10_150 rfl mw_m rfl rfl (Nat.le_of_ble_eq_true rfl) ⟨Nat.le_of_ble_eq_true rfl, Nat.le_of_ble_eq_true rfl⟩ rfl ?_
    refine G.iret (pc := 243) cx rfl dX10_doOrder_243 ?_ ?_ rfl
    · refine congrArg (fun x => some (Value.int x)) ?_
      (try clear hin9); (try clear cx); first | (simp [zOrdR, *]; done) | (simp_all [zOrdR]; done)
    · refine congrArg (fun x => mw K o x r V) ?_
      (try clear hin9); (try clear cx); first | (simp [zDoOrd, *]; done) | (simp_all [zDoOrd]; done)
  by_cases sw4_118 : q = 118
  · subst sw4_118
    refine G.tableIn (pc := 4) cx dX10_doOrder_4 (off := 144) (tgt := 148) (by decide) (by decide) (by decide) (by decide) ?_
    have ho : 0 ≤ zNoSell z (r.2.2.2.1 0) (r.2.2.2.1 1) (r.2.2.2.1 2) := by simpa [zNoOrd] using hok
    obtain ⟨g1, g2⟩ := zNoSell_ok ho
    obtain ⟨k, hk, ek⟩ := sail_of hN h16 g1
    obtain ⟨j, hj, ej⟩ := item_of g2
    have tk : (r.2.2.2.1 0).toNatClampNeg = k := by rw [ek]; exact nI_clamp (by omega)
    have tj : (r.2.2.2.1 1).toNatClampNeg = j := by rw [ej]; exact nI_clamp (by omega)
    refine G.aload_n (pc := 148) cx dX10_doOrder_148 rfl 0 rfl ?_
    refine G.aload_n (pc := 149) cx dX10_doOrder_149 rfl 0 rfl ?_
    refine G.getM (pc := 150) cx dX10_doOrder_150 7 wm_fl_X10_22 (by decide) rfl ?_
    refine G.iconst (pc := 153) cx dX10_doOrder_153 (v := 0) (by decide) ?_
    refine G.ialdV (pc := 154) cx dX10_doOrder_154 mw_nu (j := 0) rfl (by omega) (by decide) ((cut_at (by omega)).trans (ek)) ?_
    refine G.aload_n (pc := 155) cx dX10_doOrder_155 rfl 0 rfl ?_
    refine G.getM (pc := 156) cx dX10_doOrder_156 7 wm_fl_X10_22 (by decide) rfl ?_
    refine G.iconst (pc := 159) cx dX10_doOrder_159 (v := 1) (by decide) ?_
    refine G.ialdV (pc := 160) cx dX10_doOrder_160 mw_nu (j := 1) rfl (by omega) (by decide) ((cut_at (by omega)).trans (ej)) ?_
    refine G.aload_n (pc := 161) cx dX10_doOrder_161 rfl 0 rfl ?_
    refine G.getM (pc := 162) cx dX10_doOrder_162 7 wm_fl_X10_22 (by decide) rfl ?_
    refine G.iconst (pc := 165) cx dX10_doOrder_165 (v := 2) (by decide) ?_
    refine G.ialdV (pc := 166) cx dX10_doOrder_166 mw_nu (j := 2) rfl (by omega) (by decide) (cut_at (by omega)) ?_
    refine G.callV0 (pc := 167) (rest := []) (st1 := [.int ((r.2.2.2.1 2) * z (160 + 5 * j + 1))]) cx (c_X10_doSell l K sz o z r V k j (r.2.2.2.1 2) (by omega) (by omega)) ok_X10_doSell dX10_doOrder_167 wm_ml_X10_110 rfl mw_m rfl rfl (Nat.le_of_ble_eq_true rfl) ⟨Nat.le_of_ble_eq_true rfl, Nat.le_of_ble_eq_true rfl⟩ rfl ?_
    refine G.iret (pc := 170) cx rfl dX10_doOrder_170 ?_ ?_ rfl
    · refine congrArg (fun x => some (Value.int x)) ?_
      (try clear hin9); (try clear cx); first | (simp [zOrdR, *]; done) | (simp_all [zOrdR]; done)
    · refine congrArg (fun x => mw K o x r V) ?_
      (try clear hin9); (try clear cx); first | (simp [zDoOrd, *]; done) | (simp_all [zDoOrd]; done)
  refine G.tableDef (pc := 4) cx dX10_doOrder_4 (tgt := 254) ?_ (by decide) ?_
  · have g0 := sw_ne sw4_97 (by decide : (97 : Int) = (97 : Int32).toInt); have g1 := sw_ne sw4_98 (by decide : (98 : Int) = (98 : Int32).toInt); have g2 := sw_ne sw4_100 (by decide : (100 : Int) = (100 : Int32).toInt); have g3 := sw_ne sw4_102 (by decide : (102 : Int) = (102 : Int32).toInt); have g4 := sw_ne sw4_104 (by decide : (104 : Int) = (104 : Int32).toInt); have g5 := sw_ne sw4_108 (by decide : (108 : Int) = (108 : Int32).toInt); have g6 := sw_ne sw4_111 (by decide : (111 : Int) = (111 : Int32).toInt); have g7 := sw_ne sw4_112 (by decide : (112 : Int) = (112 : Int32).toInt); have g8 := sw_ne sw4_114 (by decide : (114 : Int) = (114 : Int32).toInt); have g9 := sw_ne sw4_118 (by decide : (118 : Int) = (118 : Int32).toInt)
    rcases (show q.toInt < 97 ∨ 118 < q.toInt ∨ q.toInt = 99 ∨ q.toInt = 101 ∨ q.toInt = 103 ∨ q.toInt = 105 ∨ q.toInt = 106 ∨ q.toInt = 107 ∨ q.toInt = 109 ∨ q.toInt = 110 ∨ q.toInt = 113 ∨ q.toInt = 115 ∨ q.toInt = 116 ∨ q.toInt = 117 by omega) with h | h | h | h | h | h | h | h | h | h | h | h | h | h
    · exact Or.inl h
    · exact Or.inr (Or.inl h)
    · exact Or.inr (Or.inr (by rw [h]; decide))
    · exact Or.inr (Or.inr (by rw [h]; decide))
    · exact Or.inr (Or.inr (by rw [h]; decide))
    · exact Or.inr (Or.inr (by rw [h]; decide))
    · exact Or.inr (Or.inr (by rw [h]; decide))
    · exact Or.inr (Or.inr (by rw [h]; decide))
    · exact Or.inr (Or.inr (by rw [h]; decide))
    · exact Or.inr (Or.inr (by rw [h]; decide))
    · exact Or.inr (Or.inr (by rw [h]; decide))
    · exact Or.inr (Or.inr (by rw [h]; decide))
    · exact Or.inr (Or.inr (by rw [h]; decide))
    · exact Or.inr (Or.inr (by rw [h]; decide))
  refine G.aload_n (pc := 254) cx dX10_doOrder_254 rfl 0 rfl ?_
  refine G.callV0 (pc := 255) (rest := []) (st1 := [.int (zPOSum z N)]) cx (c_X10_doPayOff l K sz o z r V N (by assumption) (by omega)) ok_X10_doPayOff dX10_doOrder_255 wm_ml_X10_179 rfl mw_m rfl rfl (Nat.le_of_ble_eq_true rfl) ⟨Nat.le_of_ble_eq_true rfl, Nat.le_of_ble_eq_true rfl⟩ rfl ?_
  refine G.iret (pc := 258) cx rfl dX10_doOrder_258 ?_ ?_ rfl
  · refine congrArg (fun x => some (Value.int x)) ?_
    (try clear hin9); (try clear cx); first | (simp [zOrdR, *]; done) | (simp_all [zOrdR]; done)
  · refine congrArg (fun x => mw K o x r V) ?_
    (try clear hin9); (try clear cx); first | (simp [zDoOrd, *]; done) | (simp_all [zDoOrd]; done)
