set_option maxHeartbeats 4000000 in
set_option maxRecDepth 100000 in
theorem c_L_isSo (l : Launch) (K : KT) (sz : Nat) (x : Nat) (s : Ot) (y : Zt) (V : VW) (B : Nat) (N : Nat) (D : Nat) (E : Nat) (hI : INV B N y) (hN : y 194 = nI N) (h16 : N ≤ 16) (hD : y 192 = nI D) (hD9 : D ≤ 999) (hE : y 206 = nI E) (hE8 : E ≤ 8) (hsz : x + 200 ≤ sz) : Ct l K yL_isSo cL_isSo 9 (some .boolean) 8 [.ref x, .ref (x + 194), .ref (x + 195), .ref (x + 196), .ref (x + 197), .ref (x + 198), .ref (x + 199)] (xwL K x y s y V) sz (some (.int 1)) (xwL K x y s y (svL K V sz (fun w => zSet y (nI w) N))) (sz + 1) 1 3 := by
  refine Ct.ofG (by decide) (Nat.le_of_ble_eq_true rfl) ?_
  intro p9 e9 s9 m9 a9 b9 t9 c9 cx hin9
  refine G.lv0 (lv2 := [(0, .ref x), (1, .ref (x + 194)), (2, .ref (x + 195)), (3, .ref (x + 196)), (4, .ref (x + 197)), (5, .ref (x + 198)), (6, .ref (x + 199))]) rfl ?_
  refine G.iconst (pc := 0) cx dL_isSo_0 (v := 3) (by decide) ?_
  refine G.newi (pc := 1) cx dL_isSo_1 (by first | exact wm_ac_int | exact wm_ac_int) 3 rfl (by decide) (Nat.le_of_ble_eq_true rfl) (Nat.le_of_ble_eq_true rfl) ?_
  refine G.cast (V' := (xwL K x y s y (svL K V sz (fun _ => 0)))) (sv_new hsz) ?_
  refine G.astore (pc := 3) cx dL_isSo_3 (by decide) rfl ?_
  refine G.iconst (pc := 5) cx dL_isSo_5 (v := 0) (by decide) ?_
  refine G.istore (pc := 6) cx dL_isSo_6 (by decide) rfl ?_
  have L8_1 : ∀ (fz k8 : Nat), N - k8 < fz → k8 ≤ N → G K p9 l e9 (rmL 8 1 3) s9 m9 a9 b9 t9 c9 (MQ b9 (QCt K (some (.int 1)) (xwL K x y s y (svL K V sz (fun w => zSet y (nI w) N))) (sz + 1)) a9 s9 1 3 (kA K)) 9 (xwL K x y s y (svL K V sz (fun w => zSet y (nI w) k8))) (sz + 1) 1 3 8 [(7, .ref sz), (0, .ref x), (1, .ref (x + 194)), (2, .ref (x + 195)), (3, .ref (x + 196)), (4, .ref (x + 197)), (5, .ref (x + 198)), (6, .ref (x + 199)), (8, .int (nI k8))] [] := by
    intro fz
    induction fz with
    | zero => intro k8 h9; omega
    | succ fz ih8 =>
      intro k8 h98 h88
      refine G.iload (pc := 8) cx dL_isSo_8 8 rfl ?_
      refine G.aload_n (pc := 10) cx dL_isSo_10 rfl 2 rfl ?_
      refine G.iconst (pc := 11) cx dL_isSo_11 (v := 4) (by decide) ?_
      refine G.ialdV (pc := 12) cx dL_isSo_12 xl_g (j := 4) rfl (by omega) (by decide) ((xr_g (n := 194) (by omega) (by omega)).trans (hN)) ?_
      refine G.icmp_geN (pc := 13) cx k8 N (by omega) (by omega) dL_isSo_13 (tgt := 40) (by decide) (fun cq13 => ?_) (fun cq13 => ?_)
      · skip
        have nq13 := Nat.not_lt.mpr cq13
        have ex8 : k8 = N := by omega
        try rw [ex8]
        refine G.iconst (pc := 40) cx dL_isSo_40 (v := 0) (by decide) ?_
        refine G.istore (pc := 41) cx dL_isSo_41 (by decide) rfl ?_
        have L43_2 : ∀ (fz k43 : Nat), 5 - k43 < fz → k43 ≤ 5 → G K p9 l e9 (rmL 8 1 3) s9 m9 a9 b9 t9 c9 (MQ b9 (QCt K (some (.int 1)) (xwL K x y s y (svL K V sz (fun w => zSet y (nI w) N))) (sz + 1)) a9 s9 1 3 (kA K)) 9 (xwL K x y s y (svL K V sz (fun w => zSet y (nI w) N))) (sz + 1) 1 3 43 [(7, .ref sz), (0, .ref x), (1, .ref (x + 194)), (2, .ref (x + 195)), (3, .ref (x + 196)), (4, .ref (x + 197)), (5, .ref (x + 198)), (6, .ref (x + 199)), (8, .int (nI k43))] [] := by
          intro fz
          induction fz with
          | zero => intro k43 h9; omega
          | succ fz ih43 =>
            intro k43 h943 h843
            refine G.iload (pc := 43) cx dL_isSo_43 8 rfl ?_
            refine G.iconst (pc := 45) cx dL_isSo_45 (v := 5) (by decide) ?_
            refine G.icmp_geN (pc := 46) cx k43 5 (by omega) (by omega) dL_isSo_46 (tgt := 70) (by decide) (fun cq46 => ?_) (fun cq46 => ?_)
            · skip
              have nq46 := Nat.not_lt.mpr cq46
              have ex43 : k43 = 5 := by omega
              try rw [ex43]
              refine G.iconst (pc := 70) cx dL_isSo_70 (v := 0) (by decide) ?_
              refine G.istore (pc := 71) cx dL_isSo_71 (by decide) rfl ?_
              have L73_3 : ∀ (fz k73 : Nat), 7 - k73 < fz → k73 ≤ 7 → G K p9 l e9 (rmL 8 1 3) s9 m9 a9 b9 t9 c9 (MQ b9 (QCt K (some (.int 1)) (xwL K x y s y (svL K V sz (fun w => zSet y (nI w) N))) (sz + 1)) a9 s9 1 3 (kA K)) 9 (xwL K x y s y (svL K V sz (fun w => zSet y (nI w) N))) (sz + 1) 1 3 73 [(7, .ref sz), (0, .ref x), (1, .ref (x + 194)), (2, .ref (x + 195)), (3, .ref (x + 196)), (4, .ref (x + 197)), (5, .ref (x + 198)), (6, .ref (x + 199)), (8, .int (nI k73))] [] := by
                intro fz
                induction fz with
                | zero => intro k73 h9; omega
                | succ fz ih73 =>
                  intro k73 h973 h873
                  refine G.iload (pc := 73) cx dL_isSo_73 8 rfl ?_
                  refine G.bipush (pc := 75) cx dL_isSo_75 (v := 7) (by decide) ?_
                  refine G.icmp_geN (pc := 77) cx k73 7 (by omega) (by omega) dL_isSo_77 (tgt := 106) (by decide) (fun cq77 => ?_) (fun cq77 => ?_)
                  · skip
                    have nq77 := Nat.not_lt.mpr cq77
                    have ex73 : k73 = 7 := by omega
                    try rw [ex73]
                    refine G.iconst (pc := 106) cx dL_isSo_106 (v := 0) (by decide) ?_
                    refine G.istore (pc := 107) cx dL_isSo_107 (by decide) rfl ?_
                    have L109_4 : ∀ (fz k109 : Nat), 3 - k109 < fz → k109 ≤ 3 → G K p9 l e9 (rmL 8 1 3) s9 m9 a9 b9 t9 c9 (MQ b9 (QCt K (some (.int 1)) (xwL K x y s y (svL K V sz (fun w => zSet y (nI w) N))) (sz + 1)) a9 s9 1 3 (kA K)) 9 (xwL K x y s y (svL K V sz (fun w => zSet y (nI w) N))) (sz + 1) 1 3 109 [(7, .ref sz), (0, .ref x), (1, .ref (x + 194)), (2, .ref (x + 195)), (3, .ref (x + 196)), (4, .ref (x + 197)), (5, .ref (x + 198)), (6, .ref (x + 199)), (8, .int (nI k109))] [] := by
                      intro fz
                      induction fz with
                      | zero => intro k109 h9; omega
                      | succ fz ih109 =>
                        intro k109 h9109 h8109
                        refine G.iload (pc := 109) cx dL_isSo_109 8 rfl ?_
                        refine G.iconst (pc := 111) cx dL_isSo_111 (v := 3) (by decide) ?_
                        refine G.icmp_geN (pc := 112) cx k109 3 (by omega) (by omega) dL_isSo_112 (tgt := 158) (by decide) (fun cq112 => ?_) (fun cq112 => ?_)
                        · skip
                          have nq112 := Nat.not_lt.mpr cq112
                          have ex109 : k109 = 3 := by omega
                          try rw [ex109]
                          refine G.iconst (pc := 158) cx dL_isSo_158 (v := 0) (by decide) ?_
                          refine G.istore (pc := 159) cx dL_isSo_159 (by decide) rfl ?_
                          have L161_5 : ∀ (fz k161 : Nat), 30 - k161 < fz → k161 ≤ 30 → G K p9 l e9 (rmL 8 1 3) s9 m9 a9 b9 t9 c9 (MQ b9 (QCt K (some (.int 1)) (xwL K x y s y (svL K V sz (fun w => zSet y (nI w) N))) (sz + 1)) a9 s9 1 3 (kA K)) 9 (xwL K x y s y (svL K V sz (fun w => zSet y (nI w) N))) (sz + 1) 1 3 161 [(7, .ref sz), (0, .ref x), (1, .ref (x + 194)), (2, .ref (x + 195)), (3, .ref (x + 196)), (4, .ref (x + 197)), (5, .ref (x + 198)), (6, .ref (x + 199)), (8, .int (nI k161))] [] := by
                            intro fz
                            induction fz with
                            | zero => intro k161 h9; omega
                            | succ fz ih161 =>
                              intro k161 h9161 h8161
                              refine G.iload (pc := 161) cx dL_isSo_161 8 rfl ?_
                              refine G.bipush (pc := 163) cx dL_isSo_163 (v := 30) (by decide) ?_
                              refine G.icmp_geN (pc := 165) cx k161 30 (by omega) (by omega) dL_isSo_165 (tgt := 196) (by decide) (fun cq165 => ?_) (fun cq165 => ?_)
                              · skip
                                have nq165 := Nat.not_lt.mpr cq165
                                have ex161 : k161 = 30 := by omega
                                try rw [ex161]
                                refine G.iconst (pc := 196) cx dL_isSo_196 (v := 0) (by decide) ?_
                                refine G.istore (pc := 197) cx dL_isSo_197 (by decide) rfl ?_
                                have L199_6 : ∀ (fz k199 : Nat), (3 * E) - k199 < fz → k199 ≤ (3 * E) → G K p9 l e9 (rmL 8 1 3) s9 m9 a9 b9 t9 c9 (MQ b9 (QCt K (some (.int 1)) (xwL K x y s y (svL K V sz (fun w => zSet y (nI w) N))) (sz + 1)) a9 s9 1 3 (kA K)) 9 (xwL K x y s y (svL K V sz (fun w => zSet y (nI w) N))) (sz + 1) 1 3 199 [(7, .ref sz), (0, .ref x), (1, .ref (x + 194)), (2, .ref (x + 195)), (3, .ref (x + 196)), (4, .ref (x + 197)), (5, .ref (x + 198)), (6, .ref (x + 199)), (8, .int (nI k199))] [] := by
                                  intro fz
                                  induction fz with
                                  | zero => intro k199 h9; omega
                                  | succ fz ih199 =>
                                    intro k199 h9199 h8199
                                    refine G.iload (pc := 199) cx dL_isSo_199 8 rfl ?_
                                    refine G.iconst (pc := 201) cx dL_isSo_201 (v := 3) (by decide) ?_
                                    refine G.aload_n (pc := 202) cx dL_isSo_202 rfl 2 rfl ?_
                                    refine G.bipush (pc := 203) cx dL_isSo_203 (v := 16) (by decide) ?_
                                    refine G.ialdV (pc := 205) cx dL_isSo_205 xl_g (j := 16) rfl (by omega) (by decide) ((xr_g (n := 206) (by omega) (by omega)).trans (hE)) ?_
                                    refine G.imulN (pc := 206) cx dL_isSo_206 3 E ?_
                                    refine G.icmp_geN (pc := 207) cx k199 (3 * E) (by omega) (by omega) dL_isSo_207 (tgt := 238) (by decide) (fun cq207 => ?_) (fun cq207 => ?_)
                                    · skip
                                      have nq207 := Nat.not_lt.mpr cq207
                                      have ex199 : k199 = (3 * E) := by omega
                                      try rw [ex199]
                                      refine G.aload_n (pc := 238) cx dL_isSo_238 rfl 1 rfl ?_
                                      refine G.aload_n (pc := 239) cx dL_isSo_239 rfl 2 rfl ?_
                                      refine G.aload_n (pc := 240) cx dL_isSo_240 rfl 3 rfl ?_
                                      refine G.aload_n (pc := 241) cx dL_isSo_241 rfl 4 rfl ?_
                                      refine G.aload (pc := 242) cx dL_isSo_242 5 rfl ?_
                                      refine G.aload (pc := 244) cx dL_isSo_244 6 rfl ?_
                                      refine G.callSg (pc := 246) (rest := []) (st1 := [.int 1]) cx (c_L_areSailors l K (sz + 1) x s y (svL K V sz (fun w => zSet y (nI w) N)) B N D (by exact hI) (by exact hN) (by omega) (by exact hD) (by omega)) ok_L_areSailors dL_isSo_246 wm_ml_L_132 rfl rfl (Nat.le_of_ble_eq_true rfl) ⟨Nat.le_of_ble_eq_true rfl, Nat.le_of_ble_eq_true rfl⟩ ⟨Nat.le_of_ble_eq_true rfl, Nat.le_of_ble_eq_true rfl⟩ rfl ?_
                                      refine G.if_eqN (pc := 249) cx 1 (by omega) dL_isSo_249 (tgt := 299) (by decide) (fun cq249 => ?_) (fun cq249 => ?_)
                                      · skip
                                        exact absurd cq249 (by decide)
                                      · skip
                                        refine G.aload_n (pc := 252) cx dL_isSo_252 rfl 1 rfl ?_
                                        refine G.bipush (pc := 253) cx dL_isSo_253 (v := 15) (by decide) ?_
                                        refine G.callVg (pc := 255) (rest := []) (st1 := [.int (zCount y N s.2.2.2.2.2 15)]) cx (k_count (l := l) (K := K) (sz := (sz + 1)) (x := x) (z := y) (y := y) (s := s) (V := (svL K V sz (fun w => zSet y (nI w) N))) hI 15) ok_X9_count dL_isSo_255 wm_ml_L_123 rfl xw_o rfl (Nat.le_of_ble_eq_true rfl) ⟨Nat.le_of_ble_eq_true rfl, Nat.le_of_ble_eq_true rfl⟩ ⟨Nat.le_of_ble_eq_true rfl, Nat.le_of_ble_eq_true rfl⟩ rfl ?_
                                        refine G.ldc (pc := 258) cx dL_isSo_258 (v := 100000) wm_ct_L_136 ?_
                                        refine G.aload_n (pc := 260) cx dL_isSo_260 rfl 2 rfl ?_
                                        refine G.bipush (pc := 261) cx dL_isSo_261 (v := 12) (by decide) ?_
                                        refine G.ialdV (pc := 263) cx dL_isSo_263 xl_g (j := 12) rfl (by omega) (by decide) (xr_g (n := 202) (by omega) (by omega)) ?_
                                        refine G.iadd (pc := 264) cx dL_isSo_264 ?_
                                        refine G.icmp_ne (pc := 265) cx dL_isSo_265 (tgt := 299) (by decide) (fun h9 => absurd (by rfl) h9) (fun _ => ?_)
                                        refine G.aload_n (pc := 268) cx dL_isSo_268 rfl 1 rfl ?_
                                        refine G.bipush (pc := 269) cx dL_isSo_269 (v := 16) (by decide) ?_
                                        refine G.callVg (pc := 271) (rest := []) (st1 := [.int (zCount y N s.2.2.2.2.2 16)]) cx (k_count (l := l) (K := K) (sz := (sz + 1)) (x := x) (z := y) (y := y) (s := s) (V := (svL K V sz (fun w => zSet y (nI w) N))) hI 16) ok_X9_count dL_isSo_271 wm_ml_L_123 rfl xw_o rfl (Nat.le_of_ble_eq_true rfl) ⟨Nat.le_of_ble_eq_true rfl, Nat.le_of_ble_eq_true rfl⟩ ⟨Nat.le_of_ble_eq_true rfl, Nat.le_of_ble_eq_true rfl⟩ rfl ?_
                                        refine G.aload_n (pc := 274) cx dL_isSo_274 rfl 2 rfl ?_
                                        refine G.bipush (pc := 275) cx dL_isSo_275 (v := 16) (by decide) ?_
                                        refine G.ialdV (pc := 277) cx dL_isSo_277 xl_g (j := 16) rfl (by omega) (by decide) ((xr_g (n := 206) (by omega) (by omega)).trans (hE)) ?_
                                        refine G.icmp_ne (pc := 278) cx dL_isSo_278 (tgt := 299) (by decide) (fun h9 => absurd (by exact hE) h9) (fun _ => ?_)
                                        refine G.aload_n (pc := 281) cx dL_isSo_281 rfl 1 rfl ?_
                                        refine G.aload_n (pc := 282) cx dL_isSo_282 rfl 2 rfl ?_
                                        refine G.bipush (pc := 283) cx dL_isSo_283 (v := 16) (by decide) ?_
                                        refine G.ialdV (pc := 285) cx dL_isSo_285 xl_g (j := 16) rfl (by omega) (by decide) ((xr_g (n := 206) (by omega) (by omega)).trans (hE)) ?_
                                        refine G.iconst (pc := 286) cx dL_isSo_286 (v := 0) (by decide) ?_
                                        refine G.callVg (pc := 287) (rest := []) (st1 := [.int (zBook y (nI E) 0)]) cx (k_book (l := l) (K := K) (sz := (sz + 1)) (x := x) (z := y) (y := y) (s := s) (V := (svL K V sz (fun w => zSet y (nI w) N))) hI (nI E) 0) ok_X9_book dL_isSo_287 wm_ml_L_129 rfl xw_o rfl (Nat.le_of_ble_eq_true rfl) ⟨Nat.le_of_ble_eq_true rfl, Nat.le_of_ble_eq_true rfl⟩ ⟨Nat.le_of_ble_eq_true rfl, Nat.le_of_ble_eq_true rfl⟩ rfl ?_
                                        refine G.ldc (pc := 290) cx dL_isSo_290 (v := (-1000004)) wm_ct_L_113 ?_
                                        refine G.icmp_ne (pc := 292) cx dL_isSo_292 (tgt := 299) (by decide) (fun h9 => absurd (by exact bk_e hE hE8) h9) (fun _ => ?_)
                                        refine G.iconst (pc := 295) cx dL_isSo_295 (v := 1) (by decide) ?_
                                        refine G.goto (pc := 296) cx dL_isSo_296 (tgt := 300) (by decide) ?_
                                        refine G.zret (pc := 300) cx rfl dL_isSo_300 rfl ?_ ?_ rfl
                                        · rfl
                                        · rfl
                                    · skip
                                      have nq207 := Nat.not_le.mpr cq207
                                      refine G.aload_n (pc := 210) cx dL_isSo_210 rfl 1 rfl ?_
                                      refine G.iload (pc := 211) cx dL_isSo_211 8 rfl ?_
                                      refine G.iconst (pc := 213) cx dL_isSo_213 (v := 3) (by decide) ?_
                                      refine G.idivN (pc := 214) cx dL_isSo_214 k199 3 (by omega) (by omega) (by omega) ?_
                                      refine G.iload (pc := 215) cx dL_isSo_215 8 rfl ?_
                                      refine G.iconst (pc := 217) cx dL_isSo_217 (v := 3) (by decide) ?_
                                      refine G.iremN (pc := 218) cx dL_isSo_218 k199 3 (by omega) (by omega) (by omega) ?_
                                      refine G.callVg (pc := 219) (rest := []) (st1 := [.int (zBook y (nI (k199 / 3)) (nI (k199 % 3)))]) cx (k_book (l := l) (K := K) (sz := (sz + 1)) (x := x) (z := y) (y := y) (s := s) (V := (svL K V sz (fun w => zSet y (nI w) N))) hI (nI (k199 / 3)) (nI (k199 % 3))) ok_X9_book dL_isSo_219 wm_ml_L_129 rfl xw_o rfl (Nat.le_of_ble_eq_true rfl) ⟨Nat.le_of_ble_eq_true rfl, Nat.le_of_ble_eq_true rfl⟩ ⟨Nat.le_of_ble_eq_true rfl, Nat.le_of_ble_eq_true rfl⟩ rfl ?_
                                      refine G.aload (pc := 222) cx dL_isSo_222 7 rfl ?_
                                      refine G.iload (pc := 224) cx dL_isSo_224 8 rfl ?_
                                      refine G.ialdV (pc := 226) cx dL_isSo_226 xl_k (j := k199) rfl (by omega) (by decide) (xr_k (n := 207 + k199) (by omega) (by omega)) ?_
                                      refine G.icmp_eq (pc := 227) cx dL_isSo_227 (tgt := 232) (by decide) (fun _ => ?_) (fun h9 => absurd (by exact bk_a hE hE8 (by omega)) h9)
                                      refine G.iinc (pc := 232) cx dL_isSo_232 (v := nI (k199 + 1)) (k := 8) rfl (nI_add k199 1) (by decide) rfl ?_
                                      refine G.goto (pc := 235) cx dL_isSo_235 (tgt := 199) (by decide) ?_
                                      refine G.castL (lv' := [(7, .ref sz), (0, .ref x), (1, .ref (x + 194)), (2, .ref (x + 195)), (3, .ref (x + 196)), (4, .ref (x + 197)), (5, .ref (x + 198)), (6, .ref (x + 199)), (8, .int (nI (k199 + 1)))]) [1, 2, 3, 4, 5, 6, 7, 8, 0] rfl ?_
                                      exact ih199 (k199 + 1) (by omega) (by omega)
                                refine G.castL (lv' := [(7, .ref sz), (0, .ref x), (1, .ref (x + 194)), (2, .ref (x + 195)), (3, .ref (x + 196)), (4, .ref (x + 197)), (5, .ref (x + 198)), (6, .ref (x + 199)), (8, .int 0)]) [1, 2, 3, 4, 5, 6, 7, 8, 0] rfl ?_
                                refine G.lv0 (lv2 := [(7, .ref sz), (0, .ref x), (1, .ref (x + 194)), (2, .ref (x + 195)), (3, .ref (x + 196)), (4, .ref (x + 197)), (5, .ref (x + 198)), (6, .ref (x + 199)), (8, .int (nI 0))]) (congrArg (fun q9 => ([(7, .ref sz), (0, .ref x), (1, .ref (x + 194)), (2, .ref (x + 195)), (3, .ref (x + 196)), (4, .ref (x + 197)), (5, .ref (x + 198)), (6, .ref (x + 199)), (8, .int q9)] : List (Nat × Value))) (show (0 : Int32) = nI 0 from by rfl)) ?_
                                exact L199_6 ((3 * E) + 1) 0 (by omega) (by omega)
                              · skip
                                have nq165 := Nat.not_le.mpr cq165
                                refine G.aload_n (pc := 168) cx dL_isSo_168 rfl 1 rfl ?_
                                refine G.iload (pc := 169) cx dL_isSo_169 8 rfl ?_
                                refine G.iconst (pc := 171) cx dL_isSo_171 (v := 5) (by decide) ?_
                                refine G.idivN (pc := 172) cx dL_isSo_172 k161 5 (by omega) (by omega) (by omega) ?_
                                refine G.iload (pc := 173) cx dL_isSo_173 8 rfl ?_
                                refine G.iconst (pc := 175) cx dL_isSo_175 (v := 5) (by decide) ?_
                                refine G.iremN (pc := 176) cx dL_isSo_176 k161 5 (by omega) (by omega) (by omega) ?_
                                refine G.callVg (pc := 177) (rest := []) (st1 := [.int (zItem y (nI (k161 / 5)) (nI (k161 % 5)))]) cx (k_item (l := l) (K := K) (sz := (sz + 1)) (x := x) (z := y) (y := y) (s := s) (V := (svL K V sz (fun w => zSet y (nI w) N))) hI (nI (k161 / 5)) (nI (k161 % 5))) ok_X9_item dL_isSo_177 wm_ml_L_126 rfl xw_o rfl (Nat.le_of_ble_eq_true rfl) ⟨Nat.le_of_ble_eq_true rfl, Nat.le_of_ble_eq_true rfl⟩ ⟨Nat.le_of_ble_eq_true rfl, Nat.le_of_ble_eq_true rfl⟩ rfl ?_
                                refine G.aload (pc := 180) cx dL_isSo_180 6 rfl ?_
                                refine G.iload (pc := 182) cx dL_isSo_182 8 rfl ?_
                                refine G.ialdV (pc := 184) cx dL_isSo_184 xl_t (j := k161) rfl (by omega) (by decide) (xr_t (n := 160 + k161) (by omega) (by omega)) ?_
                                refine G.icmp_eq (pc := 185) cx dL_isSo_185 (tgt := 190) (by decide) (fun _ => ?_) (fun h9 => absurd (by exact it_a _ (by omega)) h9)
                                refine G.iinc (pc := 190) cx dL_isSo_190 (v := nI (k161 + 1)) (k := 8) rfl (nI_add k161 1) (by decide) rfl ?_
                                refine G.goto (pc := 193) cx dL_isSo_193 (tgt := 161) (by decide) ?_
                                refine G.castL (lv' := [(7, .ref sz), (0, .ref x), (1, .ref (x + 194)), (2, .ref (x + 195)), (3, .ref (x + 196)), (4, .ref (x + 197)), (5, .ref (x + 198)), (6, .ref (x + 199)), (8, .int (nI (k161 + 1)))]) [1, 2, 3, 4, 5, 6, 7, 8, 0] rfl ?_
                                exact ih161 (k161 + 1) (by omega) (by omega)
                          refine G.castL (lv' := [(7, .ref sz), (0, .ref x), (1, .ref (x + 194)), (2, .ref (x + 195)), (3, .ref (x + 196)), (4, .ref (x + 197)), (5, .ref (x + 198)), (6, .ref (x + 199)), (8, .int 0)]) [1, 2, 3, 4, 5, 6, 7, 8, 0] rfl ?_
                          refine G.lv0 (lv2 := [(7, .ref sz), (0, .ref x), (1, .ref (x + 194)), (2, .ref (x + 195)), (3, .ref (x + 196)), (4, .ref (x + 197)), (5, .ref (x + 198)), (6, .ref (x + 199)), (8, .int (nI 0))]) (congrArg (fun q9 => ([(7, .ref sz), (0, .ref x), (1, .ref (x + 194)), (2, .ref (x + 195)), (3, .ref (x + 196)), (4, .ref (x + 197)), (5, .ref (x + 198)), (6, .ref (x + 199)), (8, .int q9)] : List (Nat × Value))) (show (0 : Int32) = nI 0 from by rfl)) ?_
                          exact L161_5 (30 + 1) 0 (by omega) (by omega)
                        · skip
                          have nq112 := Nat.not_le.mpr cq112
                          refine G.aload_n (pc := 115) cx dL_isSo_115 rfl 1 rfl ?_
                          refine G.iconst (pc := 116) cx dL_isSo_116 (v := 5) (by decide) ?_
                          refine G.iload (pc := 117) cx dL_isSo_117 8 rfl ?_
                          refine G.iaddN (pc := 119) cx dL_isSo_119 5 k109 ?_
                          refine G.callVg (pc := 120) (rest := []) (st1 := [.int (zCount y N s.2.2.2.2.2 (nI (5 + k109)))]) cx (k_count (l := l) (K := K) (sz := (sz + 1)) (x := x) (z := y) (y := y) (s := s) (V := (svL K V sz (fun w => zSet y (nI w) N))) hI (nI (5 + k109))) ok_X9_count dL_isSo_120 wm_ml_L_123 rfl xw_o rfl (Nat.le_of_ble_eq_true rfl) ⟨Nat.le_of_ble_eq_true rfl, Nat.le_of_ble_eq_true rfl⟩ ⟨Nat.le_of_ble_eq_true rfl, Nat.le_of_ble_eq_true rfl⟩ rfl ?_
                          refine G.aload (pc := 123) cx dL_isSo_123 0 rfl ?_
                          refine G.iload (pc := 125) cx dL_isSo_125 8 rfl ?_
                          refine G.ialdV (pc := 127) cx dL_isSo_127 (sv_at hsz) (j := k109) rfl (by omega) (by decide) (cut_at (by omega)) ?_
                          refine G.icmp_ne (pc := 128) cx dL_isSo_128 (tgt := 150) (by decide) (fun h9 => absurd (by exact ct_c _ _ _ (by omega)) h9) (fun _ => ?_)
                          refine G.aload_n (pc := 131) cx dL_isSo_131 rfl 1 rfl ?_
                          refine G.bipush (pc := 132) cx dL_isSo_132 (v := 20) (by decide) ?_
                          refine G.iload (pc := 134) cx dL_isSo_134 8 rfl ?_
                          refine G.iaddN (pc := 136) cx dL_isSo_136 20 k109 ?_
                          refine G.callVg (pc := 137) (rest := []) (st1 := [.int (zCount y N s.2.2.2.2.2 (nI (20 + k109)))]) cx (k_count (l := l) (K := K) (sz := (sz + 1)) (x := x) (z := y) (y := y) (s := s) (V := (svL K V sz (fun w => zSet y (nI w) N))) hI (nI (20 + k109))) ok_X9_count dL_isSo_137 wm_ml_L_123 rfl xw_o rfl (Nat.le_of_ble_eq_true rfl) ⟨Nat.le_of_ble_eq_true rfl, Nat.le_of_ble_eq_true rfl⟩ ⟨Nat.le_of_ble_eq_true rfl, Nat.le_of_ble_eq_true rfl⟩ rfl ?_
                          refine G.aload_n (pc := 140) cx dL_isSo_140 rfl 2 rfl ?_
                          refine G.bipush (pc := 141) cx dL_isSo_141 (v := 13) (by decide) ?_
                          refine G.iload (pc := 143) cx dL_isSo_143 8 rfl ?_
                          refine G.iaddN (pc := 145) cx dL_isSo_145 13 k109 ?_
                          refine G.ialdV (pc := 146) cx dL_isSo_146 xl_g (j := (13 + k109)) rfl (by omega) (by decide) (xr_g (n := 203 + k109) (by omega) (by omega)) ?_
                          refine G.icmp_eq (pc := 147) cx dL_isSo_147 (tgt := 152) (by decide) (fun _ => ?_) (fun h9 => absurd (by exact ct_d _ _ _ (by omega)) h9)
                          refine G.iinc (pc := 152) cx dL_isSo_152 (v := nI (k109 + 1)) (k := 8) rfl (nI_add k109 1) (by decide) rfl ?_
                          refine G.goto (pc := 155) cx dL_isSo_155 (tgt := 109) (by decide) ?_
                          refine G.castL (lv' := [(7, .ref sz), (0, .ref x), (1, .ref (x + 194)), (2, .ref (x + 195)), (3, .ref (x + 196)), (4, .ref (x + 197)), (5, .ref (x + 198)), (6, .ref (x + 199)), (8, .int (nI (k109 + 1)))]) [1, 2, 3, 4, 5, 6, 7, 8, 0] rfl ?_
                          exact ih109 (k109 + 1) (by omega) (by omega)
                    refine G.castL (lv' := [(7, .ref sz), (0, .ref x), (1, .ref (x + 194)), (2, .ref (x + 195)), (3, .ref (x + 196)), (4, .ref (x + 197)), (5, .ref (x + 198)), (6, .ref (x + 199)), (8, .int 0)]) [1, 2, 3, 4, 5, 6, 7, 8, 0] rfl ?_
                    refine G.lv0 (lv2 := [(7, .ref sz), (0, .ref x), (1, .ref (x + 194)), (2, .ref (x + 195)), (3, .ref (x + 196)), (4, .ref (x + 197)), (5, .ref (x + 198)), (6, .ref (x + 199)), (8, .int (nI 0))]) (congrArg (fun q9 => ([(7, .ref sz), (0, .ref x), (1, .ref (x + 194)), (2, .ref (x + 195)), (3, .ref (x + 196)), (4, .ref (x + 197)), (5, .ref (x + 198)), (6, .ref (x + 199)), (8, .int q9)] : List (Nat × Value))) (show (0 : Int32) = nI 0 from by rfl)) ?_
                    exact L109_4 (3 + 1) 0 (by omega) (by omega)
                  · skip
                    have nq77 := Nat.not_le.mpr cq77
                    refine G.aload_n (pc := 80) cx dL_isSo_80 rfl 1 rfl ?_
                    refine G.bipush (pc := 81) cx dL_isSo_81 (v := 8) (by decide) ?_
                    refine G.iload (pc := 83) cx dL_isSo_83 8 rfl ?_
                    refine G.iaddN (pc := 85) cx dL_isSo_85 8 k73 ?_
                    refine G.callVg (pc := 86) (rest := []) (st1 := [.int (zCount y N s.2.2.2.2.2 (nI (8 + k73)))]) cx (k_count (l := l) (K := K) (sz := (sz + 1)) (x := x) (z := y) (y := y) (s := s) (V := (svL K V sz (fun w => zSet y (nI w) N))) hI (nI (8 + k73))) ok_X9_count dL_isSo_86 wm_ml_L_123 rfl xw_o rfl (Nat.le_of_ble_eq_true rfl) ⟨Nat.le_of_ble_eq_true rfl, Nat.le_of_ble_eq_true rfl⟩ ⟨Nat.le_of_ble_eq_true rfl, Nat.le_of_ble_eq_true rfl⟩ rfl ?_
                    refine G.aload_n (pc := 89) cx dL_isSo_89 rfl 2 rfl ?_
                    refine G.iconst (pc := 90) cx dL_isSo_90 (v := 5) (by decide) ?_
                    refine G.iload (pc := 91) cx dL_isSo_91 8 rfl ?_
                    refine G.iaddN (pc := 93) cx dL_isSo_93 5 k73 ?_
                    refine G.ialdV (pc := 94) cx dL_isSo_94 xl_g (j := (5 + k73)) rfl (by omega) (by decide) (xr_g (n := 195 + k73) (by omega) (by omega)) ?_
                    refine G.icmp_eq (pc := 95) cx dL_isSo_95 (tgt := 100) (by decide) (fun _ => ?_) (fun h9 => absurd (by exact (ct_b _ _ _ (by omega)).trans (congrArg y (by omega))) h9)
                    refine G.iinc (pc := 100) cx dL_isSo_100 (v := nI (k73 + 1)) (k := 8) rfl (nI_add k73 1) (by decide) rfl ?_
                    refine G.goto (pc := 103) cx dL_isSo_103 (tgt := 73) (by decide) ?_
                    refine G.castL (lv' := [(7, .ref sz), (0, .ref x), (1, .ref (x + 194)), (2, .ref (x + 195)), (3, .ref (x + 196)), (4, .ref (x + 197)), (5, .ref (x + 198)), (6, .ref (x + 199)), (8, .int (nI (k73 + 1)))]) [1, 2, 3, 4, 5, 6, 7, 8, 0] rfl ?_
                    exact ih73 (k73 + 1) (by omega) (by omega)
              refine G.castL (lv' := [(7, .ref sz), (0, .ref x), (1, .ref (x + 194)), (2, .ref (x + 195)), (3, .ref (x + 196)), (4, .ref (x + 197)), (5, .ref (x + 198)), (6, .ref (x + 199)), (8, .int 0)]) [1, 2, 3, 4, 5, 6, 7, 8, 0] rfl ?_
              refine G.lv0 (lv2 := [(7, .ref sz), (0, .ref x), (1, .ref (x + 194)), (2, .ref (x + 195)), (3, .ref (x + 196)), (4, .ref (x + 197)), (5, .ref (x + 198)), (6, .ref (x + 199)), (8, .int (nI 0))]) (congrArg (fun q9 => ([(7, .ref sz), (0, .ref x), (1, .ref (x + 194)), (2, .ref (x + 195)), (3, .ref (x + 196)), (4, .ref (x + 197)), (5, .ref (x + 198)), (6, .ref (x + 199)), (8, .int q9)] : List (Nat × Value))) (show (0 : Int32) = nI 0 from by rfl)) ?_
              exact L73_3 (7 + 1) 0 (by omega) (by omega)
            · skip
              have nq46 := Nat.not_le.mpr cq46
              refine G.aload_n (pc := 49) cx dL_isSo_49 rfl 1 rfl ?_
              refine G.iload (pc := 50) cx dL_isSo_50 8 rfl ?_
              refine G.callVg (pc := 52) (rest := []) (st1 := [.int (zCount y N s.2.2.2.2.2 (nI k43))]) cx (k_count (l := l) (K := K) (sz := (sz + 1)) (x := x) (z := y) (y := y) (s := s) (V := (svL K V sz (fun w => zSet y (nI w) N))) hI (nI k43)) ok_X9_count dL_isSo_52 wm_ml_L_123 rfl xw_o rfl (Nat.le_of_ble_eq_true rfl) ⟨Nat.le_of_ble_eq_true rfl, Nat.le_of_ble_eq_true rfl⟩ ⟨Nat.le_of_ble_eq_true rfl, Nat.le_of_ble_eq_true rfl⟩ rfl ?_
              refine G.aload_n (pc := 55) cx dL_isSo_55 rfl 2 rfl ?_
              refine G.iload (pc := 56) cx dL_isSo_56 8 rfl ?_
              refine G.ialdV (pc := 58) cx dL_isSo_58 xl_g (j := k43) rfl (by omega) (by decide) (xr_g (n := 190 + k43) (by omega) (by omega)) ?_
              refine G.icmp_eq (pc := 59) cx dL_isSo_59 (tgt := 64) (by decide) (fun _ => ?_) (fun h9 => absurd (by exact ct_a _ _ _ (by omega)) h9)
              refine G.iinc (pc := 64) cx dL_isSo_64 (v := nI (k43 + 1)) (k := 8) rfl (nI_add k43 1) (by decide) rfl ?_
              refine G.goto (pc := 67) cx dL_isSo_67 (tgt := 43) (by decide) ?_
              refine G.castL (lv' := [(7, .ref sz), (0, .ref x), (1, .ref (x + 194)), (2, .ref (x + 195)), (3, .ref (x + 196)), (4, .ref (x + 197)), (5, .ref (x + 198)), (6, .ref (x + 199)), (8, .int (nI (k43 + 1)))]) [1, 2, 3, 4, 5, 6, 7, 8, 0] rfl ?_
              exact ih43 (k43 + 1) (by omega) (by omega)
        refine G.castL (lv' := [(7, .ref sz), (0, .ref x), (1, .ref (x + 194)), (2, .ref (x + 195)), (3, .ref (x + 196)), (4, .ref (x + 197)), (5, .ref (x + 198)), (6, .ref (x + 199)), (8, .int 0)]) [1, 2, 3, 4, 5, 6, 7, 8, 0] rfl ?_
        refine G.lv0 (lv2 := [(7, .ref sz), (0, .ref x), (1, .ref (x + 194)), (2, .ref (x + 195)), (3, .ref (x + 196)), (4, .ref (x + 197)), (5, .ref (x + 198)), (6, .ref (x + 199)), (8, .int (nI 0))]) (congrArg (fun q9 => ([(7, .ref sz), (0, .ref x), (1, .ref (x + 194)), (2, .ref (x + 195)), (3, .ref (x + 196)), (4, .ref (x + 197)), (5, .ref (x + 198)), (6, .ref (x + 199)), (8, .int q9)] : List (Nat × Value))) (show (0 : Int32) = nI 0 from by rfl)) ?_
        exact L43_2 (5 + 1) 0 (by omega) (by omega)
      · skip
        have nq13 := Nat.not_le.mpr cq13
        obtain ⟨w8, hw8, ew8⟩ := wh_nat hI (k := k8) (by omega)
        refine G.aload (pc := 16) cx dL_isSo_16 0 rfl ?_
        refine G.aload_n (pc := 18) cx dL_isSo_18 rfl 3 rfl ?_
        refine G.iconst (pc := 19) cx dL_isSo_19 (v := 3) (by decide) ?_
        refine G.iload (pc := 20) cx dL_isSo_20 8 rfl ?_
        refine G.imulN (pc := 22) cx dL_isSo_22 3 k8 ?_
        refine G.iconst (pc := 23) cx dL_isSo_23 (v := 2) (by decide) ?_
        refine G.iaddN (pc := 24) cx dL_isSo_24 (3 * k8) 2 ?_
        refine G.ialdV (pc := 25) cx dL_isSo_25 xl_a (j := ((3 * k8) + 2)) rfl (by omega) (by decide) ((xr_a (n := 10 * k8 + 2) (by omega) (by omega)).trans (ew8)) ?_
        refine G.dup2 (pc := 26) cx dL_isSo_26 rfl rfl ?_
        refine G.ialdV (pc := 27) cx dL_isSo_27 (sv_at hsz) (j := w8) rfl (by omega) (by decide) (cut_at (by omega)) ?_
        refine G.iconst (pc := 28) cx dL_isSo_28 (v := 1) (by decide) ?_
        refine G.iload (pc := 29) cx dL_isSo_29 8 rfl ?_
        refine G.ishl (pc := 31) cx dL_isSo_31 ?_
        refine G.ior (pc := 32) cx dL_isSo_32 ?_
        refine G.iastC (pc := 33) cx dL_isSo_33 (sv_at hsz) (j := w8) rfl (by omega) (by decide) (sv_up hsz) ?_
        refine G.iinc (pc := 34) cx dL_isSo_34 (v := nI (k8 + 1)) (k := 8) rfl (nI_add k8 1) (by decide) rfl ?_
        refine G.goto (pc := 37) cx dL_isSo_37 (tgt := 8) (by decide) ?_
        refine G.cast (V' := (xwL K x y s y (svL K V sz (fun w => zSet y (nI w) (k8 + 1))))) (congrArg (fun q9 => xwL K x y s y q9) (show (svL K V sz (upd (fun w => zSet y (nI w) k8) w8 ((zSet y (nI w8) k8) ||| (1 <<< ((nI k8) &&& 31))))) = (svL K V sz (fun w => zSet y (nI w) (k8 + 1))) from by first | rfl | exact sv_eq (set_step (by omega) ew8))) ?_
        refine G.castL (lv' := [(7, .ref sz), (0, .ref x), (1, .ref (x + 194)), (2, .ref (x + 195)), (3, .ref (x + 196)), (4, .ref (x + 197)), (5, .ref (x + 198)), (6, .ref (x + 199)), (8, .int (nI (k8 + 1)))]) [1, 2, 3, 4, 5, 6, 7, 8, 0] rfl ?_
        exact ih8 (k8 + 1) (by omega) (by omega)
  refine G.cast (V' := (xwL K x y s y (svL K V sz (fun w => zSet y (nI w) 0)))) (congrArg (fun q9 => xwL K x y s y q9) (show (svL K V sz (fun _ => 0)) = (svL K V sz (fun w => zSet y (nI w) 0)) from by first | rfl | exact sv_eq (fun w _ => rfl))) ?_
  refine G.castL (lv' := [(7, .ref sz), (0, .ref x), (1, .ref (x + 194)), (2, .ref (x + 195)), (3, .ref (x + 196)), (4, .ref (x + 197)), (5, .ref (x + 198)), (6, .ref (x + 199)), (8, .int 0)]) [1, 2, 3, 4, 5, 6, 7, 8, 0] rfl ?_
  refine G.lv0 (lv2 := [(7, .ref sz), (0, .ref x), (1, .ref (x + 194)), (2, .ref (x + 195)), (3, .ref (x + 196)), (4, .ref (x + 197)), (5, .ref (x + 198)), (6, .ref (x + 199)), (8, .int (nI 0))]) (congrArg (fun q9 => ([(7, .ref sz), (0, .ref x), (1, .ref (x + 194)), (2, .ref (x + 195)), (3, .ref (x + 196)), (4, .ref (x + 197)), (5, .ref (x + 198)), (6, .ref (x + 199)), (8, .int q9)] : List (Nat × Value))) (show (0 : Int32) = nI 0 from by first | rfl | exact sv_eq (fun w _ => rfl))) ?_
  exact L8_1 (N + 1) 0 (by omega) (by omega)
