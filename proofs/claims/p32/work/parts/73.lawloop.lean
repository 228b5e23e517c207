/-! THE LAW: its end, its turns, its last questions -/
section lawloop
variable {K : KT} {p : Program} {l : Launch} {e : Env} {s9 : State} {m : MethodId} {below : List Frame} {meth : Method} {c : Code}
theorem law_end (cx : Cx K p s9 m #[Value.ref K.2.2.2.2.2.1] meth c RL cL_law 13 ret) (hk : kn K = s9.heap.size) {V : VW} {sz cells slots : Nat} {lv : List (Nat × Value)} (hcs : cells ≤ room_1.cells ∧ slots ≤ room_1.slots) : G K p l e room_1 s9 m #[Value.ref K.2.2.2.2.2.1] below meth c (lw_Z below #[Value.ref K.2.2.2.2.2.1] s9) 13 V sz cells slots 401 lv [.int 1] := by
  intro H locs ls h1 h2 h3 h4
  refine va_forget (fun q hq => ?_) ?_
  · have h5 := h3.2.2 q hq
    unfold kA at h5
    rw [hk] at h5; exact h5
  refine W.widen (k := 600000) (n := 7302250) hcs.1 hcs.2 ?_
  refine W.base ?_
  exact lw_ret (Drawn.sameBut.refl s9.drawn lw_cs) cx.1 cx.2.1 cx.2.2.2.2.2.2.2.2.2 cx.2.2.2.2.2.2.2.2.1 dL_law_401
theorem bad_q13 {B N : Nat} {z : Zt} (hI : INV B N z) : zSailor z 0 13 = -1000001 := by
  unfold zSailor
  by_cases h : 0 ≤ (0 : Int32) ∧ (0 : Int32) ≤ z 194 - 1
  · rw [if_neg (not_not_intro h)]; rfl
  · rw [if_pos h]
set_option maxHeartbeats 4000000 in
set_option maxRecDepth 100000 in
theorem law_loop {x : Nat} (cx : Cx K p s9 m #[Value.ref K.2.2.2.2.2.1] meth c RL cL_law 13 ret) (hk : kn K = s9.heap.size) (hL : K.2.2.2.2.2.2.1 ≤ 260) : ∀ (n k : Nat), k + n = 60 → ∀ (V : VW) (sz : Nat) (z : Zt) (s : Ot) (N : Nat), x + 200 ≤ sz → SOK s → INV k N z → G K p l e room_1 s9 m #[Value.ref K.2.2.2.2.2.1] below meth c (lw_Z below #[Value.ref K.2.2.2.2.2.1] s9) 13 (xwL K x z s z V) sz (201 + k) (1884 + 3 * k) 105 [(0, .ref K.2.2.2.2.2.1), (1, .ref x), (2, .ref (x + 194)), (3, .ref (x + 195)), (4, .ref (x + 196)), (5, .ref (x + 197)), (6, .ref (x + 198)), (7, .ref (x + 199)), (8, .int (nI k))] [] := by
  intro n
  induction n with
  | zero =>
    intro k hk60 V sz z s N hsz hS hI
    obtain ⟨⟨hN, h16⟩, -⟩ := id hI
    refine G.iload (pc := 105) cx dL_law_105 8 rfl ?_
    refine G.bipush (pc := 107) cx dL_law_107 (v := 60) (by decide) ?_
    refine G.icmp_geN (pc := 109) cx k 60 (by omega) (by omega) dL_law_109 (tgt := 292) (by decide) (fun cq109 => ?_) (fun cq109 => ?_)
    · skip
      refine G.aload_n (pc := 292) cx dL_law_292 rfl 1 rfl ?_
      refine G.aload_n (pc := 293) cx dL_law_293 rfl 2 rfl ?_
      refine G.iconst (pc := 294) cx dL_law_294 (v := 4) (by decide) ?_
      refine G.ialdV (pc := 295) cx dL_law_295 xl_g (j := 4) rfl (by omega) (by decide) ((xr_g (n := 194) (by omega) (by omega)).trans (hN)) ?_
      refine G.iconst (pc := 296) cx dL_law_296 (v := 0) (by decide) ?_
      refine G.callVg (pc := 297) (rest := []) (st1 := [.int (zSailor z (nI N) 0)]) cx (k_sailor (l := l) (K := K) (sz := sz) (x := x) (z := z) (y := z) (s := s) (V := V) hI (nI N) 0) ok_X9_sailor dL_law_297 wm_ml_L_101 rfl xw_o rfl (Nat.le_of_ble_eq_true rfl) ⟨Nat.le_of_ble_eq_true rfl, Nat.le_of_ble_eq_true rfl⟩ ⟨by show _ ≤ 600000; omega, by show _ ≤ 7302250; omega⟩ rfl ?_
      refine G.ldc (pc := 300) cx dL_law_300 (v := (-1000001)) wm_ct_L_34 ?_
      refine G.icmp_ne (pc := 302) cx dL_law_302 (tgt := 400) (by decide) (fun h9 => absurd (by exact if_pos (out_sail hI)) h9) (fun _ => ?_)
      refine G.aload_n (pc := 305) cx dL_law_305 rfl 1 rfl ?_
      refine G.iconst (pc := 306) cx dL_law_306 (v := 0) (by decide) ?_
      refine G.bipush (pc := 307) cx dL_law_307 (v := 13) (by decide) ?_
      refine G.callVg (pc := 309) (rest := []) (st1 := [.int (zSailor z 0 13)]) cx (k_sailor (l := l) (K := K) (sz := sz) (x := x) (z := z) (y := z) (s := s) (V := V) hI 0 13) ok_X9_sailor dL_law_309 wm_ml_L_101 rfl xw_o rfl (Nat.le_of_ble_eq_true rfl) ⟨Nat.le_of_ble_eq_true rfl, Nat.le_of_ble_eq_true rfl⟩ ⟨by show _ ≤ 600000; omega, by show _ ≤ 7302250; omega⟩ rfl ?_
      refine G.ldc (pc := 312) cx dL_law_312 (v := (-1000001)) wm_ct_L_34 ?_
      refine G.icmp_ne (pc := 314) cx dL_law_314 (tgt := 400) (by decide) (fun h9 => absurd (by exact bad_q13 hI) h9) (fun _ => ?_)
      refine G.aload_n (pc := 317) cx dL_law_317 rfl 1 rfl ?_
      refine G.bipush (pc := 318) cx dL_law_318 (v := 6) (by decide) ?_
      refine G.iconst (pc := 320) cx dL_law_320 (v := 0) (by decide) ?_
      refine G.callVg (pc := 321) (rest := []) (st1 := [.int (zItem z 6 0)]) cx (k_item (l := l) (K := K) (sz := sz) (x := x) (z := z) (y := z) (s := s) (V := V) hI 6 0) ok_X9_item dL_law_321 wm_ml_L_126 rfl xw_o rfl (Nat.le_of_ble_eq_true rfl) ⟨Nat.le_of_ble_eq_true rfl, Nat.le_of_ble_eq_true rfl⟩ ⟨by show _ ≤ 600000; omega, by show _ ≤ 7302250; omega⟩ rfl ?_
      refine G.ldc (pc := 324) cx dL_law_324 (v := (-1000001)) wm_ct_L_34 ?_
      refine G.icmp_ne (pc := 326) cx dL_law_326 (tgt := 400) (by decide) (fun h9 => absurd (by exact if_neg (fun q => absurd q.1 (by decide))) h9) (fun _ => ?_)
      refine G.aload_n (pc := 329) cx dL_law_329 rfl 1 rfl ?_
      refine G.iconst (pc := 330) cx dL_law_330 (v := (-1)) (by decide) ?_
      refine G.iconst (pc := 331) cx dL_law_331 (v := 0) (by decide) ?_
      refine G.callVg (pc := 332) (rest := []) (st1 := [.int (zBook z (-1) 0)]) cx (k_book (l := l) (K := K) (sz := sz) (x := x) (z := z) (y := z) (s := s) (V := V) hI (-1) 0) ok_X9_book dL_law_332 wm_ml_L_129 rfl xw_o rfl (Nat.le_of_ble_eq_true rfl) ⟨Nat.le_of_ble_eq_true rfl, Nat.le_of_ble_eq_true rfl⟩ ⟨by show _ ≤ 600000; omega, by show _ ≤ 7302250; omega⟩ rfl ?_
      refine G.ldc (pc := 335) cx dL_law_335 (v := (-1000001)) wm_ct_L_34 ?_
      refine G.icmp_ne (pc := 337) cx dL_law_337 (tgt := 400) (by decide) (fun h9 => absurd (by exact if_pos (Or.inl (by decide))) h9) (fun _ => ?_)
      refine G.aload_n (pc := 340) cx dL_law_340 rfl 1 rfl ?_
      refine G.iconst (pc := 341) cx dL_law_341 (v := 0) (by decide) ?_
      refine G.iconst (pc := 342) cx dL_law_342 (v := 0) (by decide) ?_
      refine G.bipush (pc := 343) cx dL_law_343 (v := 100) (by decide) ?_
      refine G.callVg (pc := 345) (rest := []) (st1 := [.int (zWhyP z 0 0 100)]) cx (k_why (l := l) (K := K) (sz := sz) (x := x) (z := z) (y := z) (s := s) (V := V) hI 0 0 100) ok_X9_why dL_law_345 wm_ml_L_51 rfl xw_o rfl (Nat.le_of_ble_eq_true rfl) ⟨Nat.le_of_ble_eq_true rfl, Nat.le_of_ble_eq_true rfl⟩ ⟨by show _ ≤ 600000; omega, by show _ ≤ 7302250; omega⟩ rfl ?_
      refine G.ldc (pc := 348) cx dL_law_348 (v := (-1000001)) wm_ct_L_34 ?_
      refine G.icmp_ne (pc := 350) cx dL_law_350 (tgt := 400) (by decide) (fun h9 => absurd (by exact if_neg (fun q => absurd q.2.2 (by decide))) h9) (fun _ => ?_)
      refine G.aload_n (pc := 353) cx dL_law_353 rfl 1 rfl ?_
      refine G.iconst (pc := 354) cx dL_law_354 (v := 0) (by decide) ?_
      refine G.bipush (pc := 355) cx dL_law_355 (v := 6) (by decide) ?_
      refine G.callVg (pc := 357) (rest := []) (st1 := [.int (zMost z 0 6)]) cx (k_most (l := l) (K := K) (sz := sz) (x := x) (z := z) (y := z) (s := s) (V := V) hI 0 6) ok_X9_most dL_law_357 wm_ml_L_104 rfl xw_o rfl (Nat.le_of_ble_eq_true rfl) ⟨Nat.le_of_ble_eq_true rfl, Nat.le_of_ble_eq_true rfl⟩ ⟨by show _ ≤ 600000; omega, by show _ ≤ 7302250; omega⟩ rfl ?_
      refine G.ldc (pc := 360) cx dL_law_360 (v := (-1000001)) wm_ct_L_34 ?_
      refine G.icmp_ne (pc := 362) cx dL_law_362 (tgt := 400) (by decide) (fun h9 => absurd (by exact if_pos (Or.inr (by decide))) h9) (fun _ => ?_)
      refine G.aload_n (pc := 365) cx dL_law_365 rfl 1 rfl ?_
      refine G.iconst (pc := 366) cx dL_law_366 (v := 4) (by decide) ?_
      refine G.callVg (pc := 367) (rest := []) (st1 := [.int (zIfPO z N 4)]) cx (k_ifPaidOff (l := l) (K := K) (sz := sz) (x := x) (z := z) (y := z) (s := s) (V := V) hI 4) ok_X9_ifPaidOff dL_law_367 wm_ml_L_117 rfl xw_o rfl (Nat.le_of_ble_eq_true rfl) ⟨Nat.le_of_ble_eq_true rfl, Nat.le_of_ble_eq_true rfl⟩ ⟨by show _ ≤ 600000; omega, by show _ ≤ 7302250; omega⟩ rfl ?_
      refine G.ldc (pc := 370) cx dL_law_370 (v := (-1000001)) wm_ct_L_34 ?_
      refine G.icmp_ne (pc := 372) cx dL_law_372 (tgt := 400) (by decide) (fun h9 => absurd (by rfl) h9) (fun _ => ?_)
      refine G.aload_n (pc := 375) cx dL_law_375 rfl 1 rfl ?_
      refine G.iconst (pc := 376) cx dL_law_376 (v := (-1)) (by decide) ?_
      refine G.callVg (pc := 377) (rest := []) (st1 := [.int (zPoorest z N (-1))]) cx (k_poorest (l := l) (K := K) (sz := sz) (x := x) (z := z) (y := z) (s := s) (V := V) hI (-1)) ok_X9_poorest dL_law_377 wm_ml_L_107 rfl xw_o rfl (Nat.le_of_ble_eq_true rfl) ⟨Nat.le_of_ble_eq_true rfl, Nat.le_of_ble_eq_true rfl⟩ ⟨by show _ ≤ 600000; omega, by show _ ≤ 7302250; omega⟩ rfl ?_
      refine G.ldc (pc := 380) cx dL_law_380 (v := (-1000001)) wm_ct_L_34 ?_
      refine G.icmp_ne (pc := 382) cx dL_law_382 (tgt := 400) (by decide) (fun h9 => absurd (by exact if_pos (by decide)) h9) (fun _ => ?_)
      refine G.aload_n (pc := 385) cx dL_law_385 rfl 1 rfl ?_
      refine G.bipush (pc := 386) cx dL_law_386 (v := 19) (by decide) ?_
      refine G.callVg (pc := 388) (rest := []) (st1 := [.int (zCount z N s.2.2.2.2.2 19)]) cx (k_count (l := l) (K := K) (sz := sz) (x := x) (z := z) (y := z) (s := s) (V := V) hI 19) ok_X9_count dL_law_388 wm_ml_L_123 rfl xw_o rfl (Nat.le_of_ble_eq_true rfl) ⟨Nat.le_of_ble_eq_true rfl, Nat.le_of_ble_eq_true rfl⟩ ⟨by show _ ≤ 600000; omega, by show _ ≤ 7302250; omega⟩ rfl ?_
      refine G.ldc (pc := 391) cx dL_law_391 (v := (-1000001)) wm_ct_L_34 ?_
      refine G.icmp_ne (pc := 393) cx dL_law_393 (tgt := 400) (by decide) (fun h9 => absurd (by rfl) h9) (fun _ => ?_)
      refine G.iconst (pc := 396) cx dL_law_396 (v := 1) (by decide) ?_
      refine G.goto (pc := 397) cx dL_law_397 (tgt := 401) (by decide) ?_
      exact law_end cx hk ⟨by show _ ≤ 600000; omega, by show _ ≤ 7302250; omega⟩
    · exact absurd cq109 (by omega)
  | succ n ih =>
    intro k hk60 V sz z s N hsz hS hI
    obtain ⟨⟨hN, h16⟩, -⟩ := id hI
    obtain ⟨D, hD9, hD⟩ := hI.dayN
    obtain ⟨E, hE8, hE⟩ := hI.2.2.2.2.1
    obtain ⟨S, hS1, hSe⟩ := hI.seaN
    refine G.iload (pc := 105) cx dL_law_105 8 rfl ?_
    refine G.bipush (pc := 107) cx dL_law_107 (v := 60) (by decide) ?_
    refine G.icmp_geN (pc := 109) cx k 60 (by omega) (by omega) dL_law_109 (tgt := 292) (by decide) (fun cq109 => ?_) (fun cq109 => ?_)
    · exact absurd cq109 (by omega)
    refine G.aload_n (pc := 112) cx dL_law_112 rfl 0 rfl ?_
    refine G.iconst (pc := 113) cx dL_law_113 (v := 2) (by decide) ?_
    refine G.iload (pc := 114) cx dL_law_114 8 rfl ?_
    refine G.imulN (pc := 116) cx dL_law_116 2 k ?_
    obtain ⟨u117, hu117⟩ := k_cell l K sz (xwL K x z s z V) (i := (2 * k)) (by omega) hL
    refine G.callSg (pc := 117) (rest := []) (st1 := [.int u117]) cx hu117 ok_L_cell dL_law_117 wm_ml_L_145 rfl rfl (Nat.le_of_ble_eq_true rfl) ⟨Nat.le_of_ble_eq_true rfl, Nat.le_of_ble_eq_true rfl⟩ ⟨by show _ ≤ 600000; omega, by show _ ≤ 7302250; omega⟩ rfl ?_
    refine G.istore (pc := 120) cx dL_law_120 (by decide) rfl ?_
    refine G.aload_n (pc := 122) cx dL_law_122 rfl 1 rfl ?_
    refine G.iconst (pc := 123) cx dL_law_123 (v := 2) (by decide) ?_
    refine G.iload (pc := 124) cx dL_law_124 9 rfl ?_
    refine G.imulN (pc := 126) cx dL_law_126 2 k ?_
    refine G.iconst (pc := 127) cx dL_law_127 (v := 1) (by decide) ?_
    refine G.iaddN (pc := 128) cx dL_law_128 (2 * k) 1 ?_
    obtain ⟨u129, hu129⟩ := k_cell l K sz (xwL K x z s z V) (i := ((2 * k) + 1)) (by omega) hL
    refine G.callSg (pc := 129) (rest := []) (st1 := [.int u129]) cx hu129 ok_L_cell dL_law_129 wm_ml_L_145 rfl rfl (Nat.le_of_ble_eq_true rfl) ⟨Nat.le_of_ble_eq_true rfl, Nat.le_of_ble_eq_true rfl⟩ ⟨by show _ ≤ 600000; omega, by show _ ≤ 7302250; omega⟩ rfl ?_
    refine G.istore (pc := 132) cx dL_law_132 (by decide) rfl ?_
    have J169_1 : G K p l e room_1 s9 m #[Value.ref K.2.2.2.2.2.1] below meth c (lw_Z below #[Value.ref K.2.2.2.2.2.1] s9) 13 (xwL K x z s z V) sz (201 + k) (1884 + 3 * k) 169 [(0, .ref K.2.2.2.2.2.1), (1, .ref x), (2, .ref (x + 194)), (3, .ref (x + 195)), (4, .ref (x + 196)), (5, .ref (x + 197)), (6, .ref (x + 198)), (7, .ref (x + 199)), (8, .int (nI k)), (9, .int u117), (10, .int u129)] [] := by
      refine G.aload_n (pc := 169) cx dL_law_169 rfl 1 rfl ?_
      refine G.iload (pc := 170) cx dL_law_170 8 rfl ?_
      refine G.bipush (pc := 172) cx dL_law_172 (v := 9) (by decide) ?_
      have J183_2 : G K p l e room_1 s9 m #[Value.ref K.2.2.2.2.2.1] below meth c (lw_Z below #[Value.ref K.2.2.2.2.2.1] s9) 13 (xwL K x z s z V) sz (201 + k) (1884 + 3 * k) 183 [(0, .ref K.2.2.2.2.2.1), (1, .ref x), (2, .ref (x + 194)), (3, .ref (x + 195)), (4, .ref (x + 196)), (5, .ref (x + 197)), (6, .ref (x + 198)), (7, .ref (x + 199)), (8, .int (nI k)), (9, .int u117), (10, .int u129)] [.int (if k < 9 then 0 else u117), .ref x] := by
        refine G.iload (pc := 183) cx dL_law_183 10 rfl ?_
        refine G.aload_n (pc := 185) cx dL_law_185 rfl 2 rfl ?_
        refine G.aload_n (pc := 186) cx dL_law_186 rfl 3 rfl ?_
        refine G.aload (pc := 187) cx dL_law_187 4 rfl ?_
        refine G.aload (pc := 189) cx dL_law_189 5 rfl ?_
        refine G.aload (pc := 191) cx dL_law_191 6 rfl ?_
        refine G.aload (pc := 193) cx dL_law_193 7 rfl ?_
        have h195 := c_L_ship l K sz x s z V (if k < 9 then 0 else u117) u129 k N S E D hI hS hN h16 hSe hS1 hE hE8 hD hD9 (by omega)
        refine G.callSp (pc := 195) (rest := []) (maxL := 16) (d := 7) cx h195 ok_L_ship dL_law_195 wm_ml_L_149 rfl rfl (Nat.le_of_ble_eq_true rfl) ⟨Nat.le_of_ble_eq_true rfl, Nat.le_of_ble_eq_true rfl⟩ ⟨by show _ ≤ 600000; omega, by show _ ≤ 7302250; omega⟩ ?_
        rintro rv195 V195 ⟨rfl, z2, s2, N2, rfl, hS2, hI2⟩
        obtain ⟨⟨hN2, h162⟩, -⟩ := id hI2
        obtain ⟨D2, hD92, hD2⟩ := hI2.dayN
        obtain ⟨E2, hE82, hE2⟩ := hI2.2.2.2.2.1
        obtain ⟨S2, hS12, hSe2⟩ := hI2.seaN
        refine G.castS (st' := [.int 1]) rfl ?_
        refine G.goto (pc := 198) cx dL_law_198 (tgt := 230) (by decide) ?_
        refine G.istore (pc := 230) cx dL_law_230 (by decide) rfl ?_
        refine G.iload (pc := 232) cx dL_law_232 0 rfl ?_
        refine G.if_eqN (pc := 234) cx 1 (by omega) dL_law_234 (tgt := 284) (by decide) (fun cq234 => ?_) (fun cq234 => ?_)
        · skip
          exact absurd cq234 (by decide)
        · skip
          refine G.aload_n (pc := 237) cx dL_law_237 rfl 2 rfl ?_
          refine G.aload_n (pc := 238) cx dL_law_238 rfl 3 rfl ?_
          refine G.aload_n (pc := 239) cx dL_law_239 rfl 4 rfl ?_
          refine G.aload (pc := 240) cx dL_law_240 5 rfl ?_
          refine G.aload (pc := 242) cx dL_law_242 6 rfl ?_
          refine G.aload (pc := 244) cx dL_law_244 7 rfl ?_
          refine G.aload (pc := 246) cx dL_law_246 8 rfl ?_
          refine G.callS (pc := 248) (rest := []) cx (c_L_isSo l K sz x s2 z2 V (k + 1) N2 D2 E2 hI2 hN2 h162 hD2 hD92 hE2 hE82 hsz) ok_L_isSo dL_law_248 wm_ml_L_138 rfl rfl (Nat.le_of_ble_eq_true rfl) (by omega) ⟨Nat.le_of_ble_eq_true rfl, Nat.le_of_ble_eq_true rfl⟩ ⟨by show _ ≤ 600000; omega, by show _ ≤ 7302250; omega⟩ ?_
          refine G.castS (st' := [.int 1]) rfl ?_
          refine G.if_eqN (pc := 251) cx 1 (by omega) dL_law_251 (tgt := 284) (by decide) (fun cq251 => ?_) (fun cq251 => ?_)
          · skip
            exact absurd cq251 (by decide)
          · skip
            refine G.aload_n (pc := 254) cx dL_law_254 rfl 3 rfl ?_
            refine G.iconst (pc := 255) cx dL_law_255 (v := 4) (by decide) ?_
            refine G.ialdV (pc := 256) cx dL_law_256 xl_g (j := 4) rfl (by omega) (by decide) ((xr_g (n := 194) (by omega) (by omega)).trans (hN2)) ?_
            refine G.if_leN (pc := 257) cx N2 (by omega) dL_law_257 (tgt := 286) (by decide) (fun cq257 => ?_) (fun cq257 => ?_)
            · skip
              refine G.iinc (pc := 286) cx dL_law_286 (v := nI (k + 1)) (k := 9) rfl (nI_add k 1) (by decide) rfl ?_
              refine G.goto (pc := 289) cx dL_law_289 (tgt := 105) (by decide) ?_
              refine G.castL (lv' := [(0, .ref K.2.2.2.2.2.1), (1, .ref x), (2, .ref (x + 194)), (3, .ref (x + 195)), (4, .ref (x + 196)), (5, .ref (x + 197)), (6, .ref (x + 198)), (7, .ref (x + 199)), (8, .int (nI (k + 1)))]) [2, 3, 4, 5, 6, 7, 8, 9, 0] rfl ?_
              exact ih (k + 1) (by omega) _ (sz + 1) z2 s2 N2 (by omega) hS2 hI2
            · skip
              refine G.aload_n (pc := 260) cx dL_law_260 rfl 2 rfl ?_
              refine G.iload (pc := 261) cx dL_law_261 10 rfl ?_
              refine G.bipush (pc := 263) cx dL_law_263 (v := 9) (by decide) ?_
              refine G.ishr (pc := 265) cx dL_law_265 ?_
              refine G.aload_n (pc := 266) cx dL_law_266 rfl 3 rfl ?_
              refine G.iconst (pc := 267) cx dL_law_267 (v := 4) (by decide) ?_
              refine G.ialdV (pc := 268) cx dL_law_268 xl_g (j := 4) rfl (by omega) (by decide) ((xr_g (n := 194) (by omega) (by omega)).trans (hN2)) ?_
              obtain ⟨r269, hr269, hl269⟩ := k_low l K (sz + 1) (xwL K x z2 s2 z2 (svL K V sz (fun w => zSet z2 (nI w) N2))) (u117 >>> (9 &&& 31)) (n := N2) (by omega) (by omega)
              refine G.callSg (pc := 269) (rest := [.ref x]) (st1 := [.int (nI r269), .ref x]) cx hl269 ok_L_low dL_law_269 wm_ml_L_27 rfl rfl (Nat.le_of_ble_eq_true rfl) ⟨Nat.le_of_ble_eq_true rfl, Nat.le_of_ble_eq_true rfl⟩ ⟨by show _ ≤ 600000; omega, by show _ ≤ 7302250; omega⟩ rfl ?_
              refine G.aload_n (pc := 272) cx dL_law_272 rfl 3 rfl ?_
              refine G.aload_n (pc := 273) cx dL_law_273 rfl 4 rfl ?_
              refine G.aload (pc := 274) cx dL_law_274 5 rfl ?_
              refine G.aload (pc := 276) cx dL_law_276 6 rfl ?_
              refine G.callSg (pc := 278) (rest := []) (st1 := [.int 1]) cx (c_L_isClear l K (sz + 1) x s2 z2 (svL K V sz (fun w => zSet z2 (nI w) N2)) r269 (k + 1) N2 S2 hI2 (by omega) h162 hSe2 hS12) ok_L_isClear dL_law_278 wm_ml_L_156 rfl rfl (Nat.le_of_ble_eq_true rfl) ⟨Nat.le_of_ble_eq_true rfl, Nat.le_of_ble_eq_true rfl⟩ ⟨by show _ ≤ 600000; omega, by show _ ≤ 7302250; omega⟩ rfl ?_
              refine G.if_neN (pc := 281) cx 1 (by omega) dL_law_281 (tgt := 286) (by decide) (fun cq281 => ?_) (fun cq281 => ?_)
              · skip
                refine G.iinc (pc := 286) cx dL_law_286 (v := nI (k + 1)) (k := 9) rfl (nI_add k 1) (by decide) rfl ?_
                refine G.goto (pc := 289) cx dL_law_289 (tgt := 105) (by decide) ?_
                refine G.castL (lv' := [(0, .ref K.2.2.2.2.2.1), (1, .ref x), (2, .ref (x + 194)), (3, .ref (x + 195)), (4, .ref (x + 196)), (5, .ref (x + 197)), (6, .ref (x + 198)), (7, .ref (x + 199)), (8, .int (nI (k + 1)))]) [2, 3, 4, 5, 6, 7, 8, 9, 0] rfl ?_
                exact ih (k + 1) (by omega) _ (sz + 1) z2 s2 N2 (by omega) hS2 hI2
              · skip
                exact absurd cq281 (by decide)
      refine G.icmp_geN (pc := 174) cx k 9 (by omega) (by omega) dL_law_174 (tgt := 181) (by decide) (fun cq174 => ?_) (fun cq174 => ?_)
      · skip
        have nq174 := Nat.not_lt.mpr cq174
        refine G.iload (pc := 181) cx dL_law_181 9 rfl ?_
        refine G.castS (st' := [.int (if k < 9 then 0 else u117), .ref x]) (congrArg (fun q9 => ([.int q9, .ref x] : List Value)) (show (u117 : Int32) = if k < 9 then 0 else u117 from by first | exact (if_pos (by omega)).symm | exact (if_neg (by omega)).symm)) ?_
        exact J183_2
      · skip
        have nq174 := Nat.not_le.mpr cq174
        refine G.iconst (pc := 177) cx dL_law_177 (v := 0) (by decide) ?_
        refine G.goto (pc := 178) cx dL_law_178 (tgt := 183) (by decide) ?_
        refine G.castS (st' := [.int (if k < 9 then 0 else u117), .ref x]) (congrArg (fun q9 => ([.int q9, .ref x] : List Value)) (show (0 : Int32) = if k < 9 then 0 else u117 from by first | exact (if_pos (by omega)).symm | exact (if_neg (by omega)).symm)) ?_
        exact J183_2
    refine G.iload (pc := 134) cx dL_law_134 10 rfl ?_
    have J201_3 : G K p l e room_1 s9 m #[Value.ref K.2.2.2.2.2.1] below meth c (lw_Z below #[Value.ref K.2.2.2.2.2.1] s9) 13 (xwL K x z s z V) sz (201 + k) (1884 + 3 * k) 201 [(0, .ref K.2.2.2.2.2.1), (1, .ref x), (2, .ref (x + 194)), (3, .ref (x + 195)), (4, .ref (x + 196)), (5, .ref (x + 197)), (6, .ref (x + 198)), (7, .ref (x + 199)), (8, .int (nI k)), (9, .int u117), (10, .int u129)] [] := by
      refine G.aload_n (pc := 201) cx dL_law_201 rfl 1 rfl ?_
      refine G.iload (pc := 202) cx dL_law_202 8 rfl ?_
      refine G.bipush (pc := 204) cx dL_law_204 (v := 6) (by decide) ?_
      have J215_4 : G K p l e room_1 s9 m #[Value.ref K.2.2.2.2.2.1] below meth c (lw_Z below #[Value.ref K.2.2.2.2.2.1] s9) 13 (xwL K x z s z V) sz (201 + k) (1884 + 3 * k) 215 [(0, .ref K.2.2.2.2.2.1), (1, .ref x), (2, .ref (x + 194)), (3, .ref (x + 195)), (4, .ref (x + 196)), (5, .ref (x + 197)), (6, .ref (x + 198)), (7, .ref (x + 199)), (8, .int (nI k)), (9, .int u117), (10, .int u129)] [.int (if k < 6 then 0 else u117), .ref x] := by
        refine G.iload (pc := 215) cx dL_law_215 10 rfl ?_
        refine G.aload_n (pc := 217) cx dL_law_217 rfl 2 rfl ?_
        refine G.aload_n (pc := 218) cx dL_law_218 rfl 3 rfl ?_
        refine G.aload (pc := 219) cx dL_law_219 4 rfl ?_
        refine G.aload (pc := 221) cx dL_law_221 5 rfl ?_
        refine G.aload (pc := 223) cx dL_law_223 6 rfl ?_
        refine G.aload (pc := 225) cx dL_law_225 7 rfl ?_
        have h227 := c_L_people l K sz x s z V (if k < 6 then 0 else u117) u129 k N S E D hI hS hN h16 hSe hS1 hE hE8 hD hD9 (by omega)
        refine G.callSp (pc := 227) (rest := []) (maxL := 21) (d := 7) cx h227 ok_L_people dL_law_227 wm_ml_L_153 rfl rfl (Nat.le_of_ble_eq_true rfl) ⟨Nat.le_of_ble_eq_true rfl, Nat.le_of_ble_eq_true rfl⟩ ⟨by show _ ≤ 600000; omega, by show _ ≤ 7302250; omega⟩ ?_
        rintro rv227 V227 ⟨rfl, z2, s2, N2, rfl, hS2, hI2⟩
        obtain ⟨⟨hN2, h162⟩, -⟩ := id hI2
        obtain ⟨D2, hD92, hD2⟩ := hI2.dayN
        obtain ⟨E2, hE82, hE2⟩ := hI2.2.2.2.2.1
        obtain ⟨S2, hS12, hSe2⟩ := hI2.seaN
        refine G.castS (st' := [.int 1]) rfl ?_
        refine G.istore (pc := 230) cx dL_law_230 (by decide) rfl ?_
        refine G.iload (pc := 232) cx dL_law_232 0 rfl ?_
        refine G.if_eqN (pc := 234) cx 1 (by omega) dL_law_234 (tgt := 284) (by decide) (fun cq234 => ?_) (fun cq234 => ?_)
        · skip
          exact absurd cq234 (by decide)
        · skip
          refine G.aload_n (pc := 237) cx dL_law_237 rfl 2 rfl ?_
          refine G.aload_n (pc := 238) cx dL_law_238 rfl 3 rfl ?_
          refine G.aload_n (pc := 239) cx dL_law_239 rfl 4 rfl ?_
          refine G.aload (pc := 240) cx dL_law_240 5 rfl ?_
          refine G.aload (pc := 242) cx dL_law_242 6 rfl ?_
          refine G.aload (pc := 244) cx dL_law_244 7 rfl ?_
          refine G.aload (pc := 246) cx dL_law_246 8 rfl ?_
          refine G.callS (pc := 248) (rest := []) cx (c_L_isSo l K sz x s2 z2 V (k + 1) N2 D2 E2 hI2 hN2 h162 hD2 hD92 hE2 hE82 hsz) ok_L_isSo dL_law_248 wm_ml_L_138 rfl rfl (Nat.le_of_ble_eq_true rfl) (by omega) ⟨Nat.le_of_ble_eq_true rfl, Nat.le_of_ble_eq_true rfl⟩ ⟨by show _ ≤ 600000; omega, by show _ ≤ 7302250; omega⟩ ?_
          refine G.castS (st' := [.int 1]) rfl ?_
          refine G.if_eqN (pc := 251) cx 1 (by omega) dL_law_251 (tgt := 284) (by decide) (fun cq251 => ?_) (fun cq251 => ?_)
          · skip
            exact absurd cq251 (by decide)
          · skip
            refine G.aload_n (pc := 254) cx dL_law_254 rfl 3 rfl ?_
            refine G.iconst (pc := 255) cx dL_law_255 (v := 4) (by decide) ?_
            refine G.ialdV (pc := 256) cx dL_law_256 xl_g (j := 4) rfl (by omega) (by decide) ((xr_g (n := 194) (by omega) (by omega)).trans (hN2)) ?_
            refine G.if_leN (pc := 257) cx N2 (by omega) dL_law_257 (tgt := 286) (by decide) (fun cq257 => ?_) (fun cq257 => ?_)
            · skip
              refine G.iinc (pc := 286) cx dL_law_286 (v := nI (k + 1)) (k := 9) rfl (nI_add k 1) (by decide) rfl ?_
              refine G.goto (pc := 289) cx dL_law_289 (tgt := 105) (by decide) ?_
              refine G.castL (lv' := [(0, .ref K.2.2.2.2.2.1), (1, .ref x), (2, .ref (x + 194)), (3, .ref (x + 195)), (4, .ref (x + 196)), (5, .ref (x + 197)), (6, .ref (x + 198)), (7, .ref (x + 199)), (8, .int (nI (k + 1)))]) [2, 3, 4, 5, 6, 7, 8, 9, 0] rfl ?_
              exact ih (k + 1) (by omega) _ (sz + 1) z2 s2 N2 (by omega) hS2 hI2
            · skip
              refine G.aload_n (pc := 260) cx dL_law_260 rfl 2 rfl ?_
              refine G.iload (pc := 261) cx dL_law_261 10 rfl ?_
              refine G.bipush (pc := 263) cx dL_law_263 (v := 9) (by decide) ?_
              refine G.ishr (pc := 265) cx dL_law_265 ?_
              refine G.aload_n (pc := 266) cx dL_law_266 rfl 3 rfl ?_
              refine G.iconst (pc := 267) cx dL_law_267 (v := 4) (by decide) ?_
              refine G.ialdV (pc := 268) cx dL_law_268 xl_g (j := 4) rfl (by omega) (by decide) ((xr_g (n := 194) (by omega) (by omega)).trans (hN2)) ?_
              obtain ⟨r269, hr269, hl269⟩ := k_low l K (sz + 1) (xwL K x z2 s2 z2 (svL K V sz (fun w => zSet z2 (nI w) N2))) (u117 >>> (9 &&& 31)) (n := N2) (by omega) (by omega)
              refine G.callSg (pc := 269) (rest := [.ref x]) (st1 := [.int (nI r269), .ref x]) cx hl269 ok_L_low dL_law_269 wm_ml_L_27 rfl rfl (Nat.le_of_ble_eq_true rfl) ⟨Nat.le_of_ble_eq_true rfl, Nat.le_of_ble_eq_true rfl⟩ ⟨by show _ ≤ 600000; omega, by show _ ≤ 7302250; omega⟩ rfl ?_
              refine G.aload_n (pc := 272) cx dL_law_272 rfl 3 rfl ?_
              refine G.aload_n (pc := 273) cx dL_law_273 rfl 4 rfl ?_
              refine G.aload (pc := 274) cx dL_law_274 5 rfl ?_
              refine G.aload (pc := 276) cx dL_law_276 6 rfl ?_
              refine G.callSg (pc := 278) (rest := []) (st1 := [.int 1]) cx (c_L_isClear l K (sz + 1) x s2 z2 (svL K V sz (fun w => zSet z2 (nI w) N2)) r269 (k + 1) N2 S2 hI2 (by omega) h162 hSe2 hS12) ok_L_isClear dL_law_278 wm_ml_L_156 rfl rfl (Nat.le_of_ble_eq_true rfl) ⟨Nat.le_of_ble_eq_true rfl, Nat.le_of_ble_eq_true rfl⟩ ⟨by show _ ≤ 600000; omega, by show _ ≤ 7302250; omega⟩ rfl ?_
              refine G.if_neN (pc := 281) cx 1 (by omega) dL_law_281 (tgt := 286) (by decide) (fun cq281 => ?_) (fun cq281 => ?_)
              · skip
                refine G.iinc (pc := 286) cx dL_law_286 (v := nI (k + 1)) (k := 9) rfl (nI_add k 1) (by decide) rfl ?_
                refine G.goto (pc := 289) cx dL_law_289 (tgt := 105) (by decide) ?_
                refine G.castL (lv' := [(0, .ref K.2.2.2.2.2.1), (1, .ref x), (2, .ref (x + 194)), (3, .ref (x + 195)), (4, .ref (x + 196)), (5, .ref (x + 197)), (6, .ref (x + 198)), (7, .ref (x + 199)), (8, .int (nI (k + 1)))]) [2, 3, 4, 5, 6, 7, 8, 9, 0] rfl ?_
                exact ih (k + 1) (by omega) _ (sz + 1) z2 s2 N2 (by omega) hS2 hI2
              · skip
                exact absurd cq281 (by decide)
      refine G.icmp_geN (pc := 206) cx k 6 (by omega) (by omega) dL_law_206 (tgt := 213) (by decide) (fun cq206 => ?_) (fun cq206 => ?_)
      · skip
        have nq206 := Nat.not_lt.mpr cq206
        refine G.iload (pc := 213) cx dL_law_213 9 rfl ?_
        refine G.castS (st' := [.int (if k < 6 then 0 else u117), .ref x]) (congrArg (fun q9 => ([.int q9, .ref x] : List Value)) (show (u117 : Int32) = if k < 6 then 0 else u117 from by first | exact (if_pos (by omega)).symm | exact (if_neg (by omega)).symm)) ?_
        exact J215_4
      · skip
        have nq206 := Nat.not_le.mpr cq206
        refine G.iconst (pc := 209) cx dL_law_209 (v := 0) (by decide) ?_
        refine G.goto (pc := 210) cx dL_law_210 (tgt := 215) (by decide) ?_
        refine G.castS (st' := [.int (if k < 6 then 0 else u117), .ref x]) (congrArg (fun q9 => ([.int q9, .ref x] : List Value)) (show (0 : Int32) = if k < 6 then 0 else u117 from by first | exact (if_pos (by omega)).symm | exact (if_neg (by omega)).symm)) ?_
        exact J215_4
    refine G.iconst (pc := 136) cx dL_law_136 (v := 5) (by decide) ?_
    refine G.icmp_leN (pc := 137) cx k 5 (by omega) (by omega) dL_law_137 (tgt := 161) (by decide) (fun cq137 => ?_) (fun cq137 => ?_)
    · skip
      have nq137 := Nat.not_lt.mpr cq137
      refine G.iconst (pc := 161) cx dL_law_161 (v := 0) (by decide) ?_
      refine G.istore (pc := 162) cx dL_law_162 (by decide) rfl ?_
      refine G.iload (pc := 164) cx dL_law_164 0 rfl ?_
      refine G.if_eqN (pc := 166) cx 0 (by omega) dL_law_166 (tgt := 201) (by decide) (fun cq166 => ?_) (fun cq166 => ?_)
      · skip
        refine G.castL (lv' := [(0, .ref K.2.2.2.2.2.1), (1, .ref x), (2, .ref (x + 194)), (3, .ref (x + 195)), (4, .ref (x + 196)), (5, .ref (x + 197)), (6, .ref (x + 198)), (7, .ref (x + 199)), (8, .int (nI k)), (9, .int u117), (10, .int u129)]) [3, 4, 5, 6, 7, 8, 9, 10, 11, 2, 1] rfl ?_
        exact J201_3
      · skip
        exact absurd cq166 (by decide)
    · skip
      have nq137 := Nat.not_le.mpr cq137
      refine G.iload (pc := 140) cx dL_law_140 10 rfl ?_
      refine G.bipush (pc := 142) cx dL_law_142 (v := 9) (by decide) ?_
      refine G.icmp_ltN (pc := 144) cx k 9 (by omega) (by omega) dL_law_144 (tgt := 157) (by decide) (fun cq144 => ?_) (fun cq144 => ?_)
      · skip
        have nq144 := Nat.not_le.mpr cq144
        refine G.iconst (pc := 157) cx dL_law_157 (v := 1) (by decide) ?_
        refine G.goto (pc := 158) cx dL_law_158 (tgt := 162) (by decide) ?_
        refine G.istore (pc := 162) cx dL_law_162 (by decide) rfl ?_
        refine G.iload (pc := 164) cx dL_law_164 0 rfl ?_
        refine G.if_eqN (pc := 166) cx 1 (by omega) dL_law_166 (tgt := 201) (by decide) (fun cq166 => ?_) (fun cq166 => ?_)
        · skip
          exact absurd cq166 (by decide)
        · skip
          refine G.aload_n (pc := 169) cx dL_law_169 rfl 4 rfl ?_
          refine G.iload (pc := 170) cx dL_law_170 11 rfl ?_
          refine G.bipush (pc := 172) cx dL_law_172 (v := 9) (by decide) ?_
          have J183_5 : G K p l e room_1 s9 m #[Value.ref K.2.2.2.2.2.1] below meth c (lw_Z below #[Value.ref K.2.2.2.2.2.1] s9) 13 (xwL K x z s z V) sz (201 + k) (1884 + 3 * k) 183 [(0, .ref K.2.2.2.2.2.1), (1, .ref x), (2, .ref (x + 194)), (3, .ref (x + 195)), (4, .ref (x + 196)), (5, .ref (x + 197)), (6, .ref (x + 198)), (7, .ref (x + 199)), (8, .int (nI k)), (9, .int u117), (10, .int u129), (11, .int 1)] [.int (if k < 9 then 0 else u117), .ref x] := by
            refine G.iload (pc := 183) cx dL_law_183 10 rfl ?_
            refine G.aload_n (pc := 185) cx dL_law_185 rfl 2 rfl ?_
            refine G.aload_n (pc := 186) cx dL_law_186 rfl 3 rfl ?_
            refine G.aload (pc := 187) cx dL_law_187 4 rfl ?_
            refine G.aload (pc := 189) cx dL_law_189 5 rfl ?_
            refine G.aload (pc := 191) cx dL_law_191 6 rfl ?_
            refine G.aload (pc := 193) cx dL_law_193 7 rfl ?_
            have h195 := c_L_ship l K sz x s z V (if k < 9 then 0 else u117) u129 k N S E D hI hS hN h16 hSe hS1 hE hE8 hD hD9 (by omega)
            refine G.callSp (pc := 195) (rest := []) (maxL := 16) (d := 7) cx h195 ok_L_ship dL_law_195 wm_ml_L_149 rfl rfl (Nat.le_of_ble_eq_true rfl) ⟨Nat.le_of_ble_eq_true rfl, Nat.le_of_ble_eq_true rfl⟩ ⟨by show _ ≤ 600000; omega, by show _ ≤ 7302250; omega⟩ ?_
            rintro rv195 V195 ⟨rfl, z2, s2, N2, rfl, hS2, hI2⟩
            obtain ⟨⟨hN2, h162⟩, -⟩ := id hI2
            obtain ⟨D2, hD92, hD2⟩ := hI2.dayN
            obtain ⟨E2, hE82, hE2⟩ := hI2.2.2.2.2.1
            obtain ⟨S2, hS12, hSe2⟩ := hI2.seaN
            refine G.castS (st' := [.int 1]) rfl ?_
            refine G.goto (pc := 198) cx dL_law_198 (tgt := 230) (by decide) ?_
            refine G.istore (pc := 230) cx dL_law_230 (by decide) rfl ?_
            refine G.iload (pc := 232) cx dL_law_232 0 rfl ?_
            refine G.if_eqN (pc := 234) cx 1 (by omega) dL_law_234 (tgt := 284) (by decide) (fun cq234 => ?_) (fun cq234 => ?_)
            · skip
              exact absurd cq234 (by decide)
            · skip
              refine G.aload_n (pc := 237) cx dL_law_237 rfl 2 rfl ?_
              refine G.aload_n (pc := 238) cx dL_law_238 rfl 3 rfl ?_
              refine G.aload_n (pc := 239) cx dL_law_239 rfl 4 rfl ?_
              refine G.aload (pc := 240) cx dL_law_240 5 rfl ?_
              refine G.aload (pc := 242) cx dL_law_242 6 rfl ?_
              refine G.aload (pc := 244) cx dL_law_244 7 rfl ?_
              refine G.aload (pc := 246) cx dL_law_246 8 rfl ?_
              refine G.callS (pc := 248) (rest := []) cx (c_L_isSo l K sz x s2 z2 V (k + 1) N2 D2 E2 hI2 hN2 h162 hD2 hD92 hE2 hE82 hsz) ok_L_isSo dL_law_248 wm_ml_L_138 rfl rfl (Nat.le_of_ble_eq_true rfl) (by omega) ⟨Nat.le_of_ble_eq_true rfl, Nat.le_of_ble_eq_true rfl⟩ ⟨by show _ ≤ 600000; omega, by show _ ≤ 7302250; omega⟩ ?_
              refine G.castS (st' := [.int 1]) rfl ?_
              refine G.if_eqN (pc := 251) cx 1 (by omega) dL_law_251 (tgt := 284) (by decide) (fun cq251 => ?_) (fun cq251 => ?_)
              · skip
                exact absurd cq251 (by decide)
              · skip
                refine G.aload_n (pc := 254) cx dL_law_254 rfl 3 rfl ?_
                refine G.iconst (pc := 255) cx dL_law_255 (v := 4) (by decide) ?_
                refine G.ialdV (pc := 256) cx dL_law_256 xl_g (j := 4) rfl (by omega) (by decide) ((xr_g (n := 194) (by omega) (by omega)).trans (hN2)) ?_
                refine G.if_leN (pc := 257) cx N2 (by omega) dL_law_257 (tgt := 286) (by decide) (fun cq257 => ?_) (fun cq257 => ?_)
                · skip
                  refine G.iinc (pc := 286) cx dL_law_286 (v := nI (k + 1)) (k := 9) rfl (nI_add k 1) (by decide) rfl ?_
                  refine G.goto (pc := 289) cx dL_law_289 (tgt := 105) (by decide) ?_
                  refine G.castL (lv' := [(0, .ref K.2.2.2.2.2.1), (1, .ref x), (2, .ref (x + 194)), (3, .ref (x + 195)), (4, .ref (x + 196)), (5, .ref (x + 197)), (6, .ref (x + 198)), (7, .ref (x + 199)), (8, .int (nI (k + 1)))]) [2, 3, 4, 5, 6, 7, 8, 9, 0] rfl ?_
                  exact ih (k + 1) (by omega) _ (sz + 1) z2 s2 N2 (by omega) hS2 hI2
                · skip
                  refine G.aload_n (pc := 260) cx dL_law_260 rfl 2 rfl ?_
                  refine G.iload (pc := 261) cx dL_law_261 10 rfl ?_
                  refine G.bipush (pc := 263) cx dL_law_263 (v := 9) (by decide) ?_
                  refine G.ishr (pc := 265) cx dL_law_265 ?_
                  refine G.aload_n (pc := 266) cx dL_law_266 rfl 3 rfl ?_
                  refine G.iconst (pc := 267) cx dL_law_267 (v := 4) (by decide) ?_
                  refine G.ialdV (pc := 268) cx dL_law_268 xl_g (j := 4) rfl (by omega) (by decide) ((xr_g (n := 194) (by omega) (by omega)).trans (hN2)) ?_
                  obtain ⟨r269, hr269, hl269⟩ := k_low l K (sz + 1) (xwL K x z2 s2 z2 (svL K V sz (fun w => zSet z2 (nI w) N2))) (u117 >>> (9 &&& 31)) (n := N2) (by omega) (by omega)
                  refine G.callSg (pc := 269) (rest := [.ref x]) (st1 := [.int (nI r269), .ref x]) cx hl269 ok_L_low dL_law_269 wm_ml_L_27 rfl rfl (Nat.le_of_ble_eq_true rfl) ⟨Nat.le_of_ble_eq_true rfl, Nat.le_of_ble_eq_true rfl⟩ ⟨by show _ ≤ 600000; omega, by show _ ≤ 7302250; omega⟩ rfl ?_
                  refine G.aload_n (pc := 272) cx dL_law_272 rfl 3 rfl ?_
                  refine G.aload_n (pc := 273) cx dL_law_273 rfl 4 rfl ?_
                  refine G.aload (pc := 274) cx dL_law_274 5 rfl ?_
                  refine G.aload (pc := 276) cx dL_law_276 6 rfl ?_
                  refine G.callSg (pc := 278) (rest := []) (st1 := [.int 1]) cx (c_L_isClear l K (sz + 1) x s2 z2 (svL K V sz (fun w => zSet z2 (nI w) N2)) r269 (k + 1) N2 S2 hI2 (by omega) h162 hSe2 hS12) ok_L_isClear dL_law_278 wm_ml_L_156 rfl rfl (Nat.le_of_ble_eq_true rfl) ⟨Nat.le_of_ble_eq_true rfl, Nat.le_of_ble_eq_true rfl⟩ ⟨by show _ ≤ 600000; omega, by show _ ≤ 7302250; omega⟩ rfl ?_
                  refine G.if_neN (pc := 281) cx 1 (by omega) dL_law_281 (tgt := 286) (by decide) (fun cq281 => ?_) (fun cq281 => ?_)
                  · skip
                    refine G.iinc (pc := 286) cx dL_law_286 (v := nI (k + 1)) (k := 9) rfl (nI_add k 1) (by decide) rfl ?_
                    refine G.goto (pc := 289) cx dL_law_289 (tgt := 105) (by decide) ?_
                    refine G.castL (lv' := [(0, .ref K.2.2.2.2.2.1), (1, .ref x), (2, .ref (x + 194)), (3, .ref (x + 195)), (4, .ref (x + 196)), (5, .ref (x + 197)), (6, .ref (x + 198)), (7, .ref (x + 199)), (8, .int (nI (k + 1)))]) [2, 3, 4, 5, 6, 7, 8, 9, 0] rfl ?_
                    exact ih (k + 1) (by omega) _ (sz + 1) z2 s2 N2 (by omega) hS2 hI2
                  · skip
                    exact absurd cq281 (by decide)
          refine G.icmp_geN (pc := 174) cx k 9 (by omega) (by omega) dL_law_174 (tgt := 181) (by decide) (fun cq174 => ?_) (fun cq174 => ?_)
          · skip
            have nq174 := Nat.not_lt.mpr cq174
            refine G.iload (pc := 181) cx dL_law_181 2 rfl ?_
            refine G.castS (st' := [.int (if k < 9 then 0 else u117), .ref x]) (congrArg (fun q9 => ([.int q9, .ref x] : List Value)) (show (u117 : Int32) = if k < 9 then 0 else u117 from by first | exact (if_pos (by omega)).symm | exact (if_neg (by omega)).symm)) ?_
            refine G.castL (lv' := [(0, .ref K.2.2.2.2.2.1), (1, .ref x), (2, .ref (x + 194)), (3, .ref (x + 195)), (4, .ref (x + 196)), (5, .ref (x + 197)), (6, .ref (x + 198)), (7, .ref (x + 199)), (8, .int (nI k)), (9, .int u117), (10, .int u129), (11, .int 1)]) [3, 4, 5, 6, 7, 8, 9, 10, 11, 2, 1, 0] rfl ?_
            exact J183_5
          · skip
            have nq174 := Nat.not_le.mpr cq174
            refine G.iconst (pc := 177) cx dL_law_177 (v := 0) (by decide) ?_
            refine G.goto (pc := 178) cx dL_law_178 (tgt := 183) (by decide) ?_
            refine G.castS (st' := [.int (if k < 9 then 0 else u117), .ref x]) (congrArg (fun q9 => ([.int q9, .ref x] : List Value)) (show (0 : Int32) = if k < 9 then 0 else u117 from by first | exact (if_pos (by omega)).symm | exact (if_neg (by omega)).symm)) ?_
            refine G.castL (lv' := [(0, .ref K.2.2.2.2.2.1), (1, .ref x), (2, .ref (x + 194)), (3, .ref (x + 195)), (4, .ref (x + 196)), (5, .ref (x + 197)), (6, .ref (x + 198)), (7, .ref (x + 199)), (8, .int (nI k)), (9, .int u117), (10, .int u129), (11, .int 1)]) [3, 4, 5, 6, 7, 8, 9, 10, 11, 2, 1, 0] rfl ?_
            exact J183_5
      · skip
        have nq144 := Nat.not_lt.mpr cq144
        refine G.iload (pc := 147) cx dL_law_147 1 rfl ?_
        refine G.bipush (pc := 149) cx dL_law_149 (v := 8) (by decide) ?_
        refine G.ishr (pc := 151) cx dL_law_151 ?_
        refine G.iconst (pc := 152) cx dL_law_152 (v := 1) (by decide) ?_
        refine G.iand (pc := 153) cx dL_law_153 ?_
        refine G.if_ne (pc := 154) cx dL_law_154 (tgt := 161) (by decide) (fun cq154 => ?_) (fun cq154 => ?_)
        · skip
          refine G.iconst (pc := 161) cx dL_law_161 (v := 0) (by decide) ?_
          refine G.istore (pc := 162) cx dL_law_162 (by decide) rfl ?_
          refine G.iload (pc := 164) cx dL_law_164 0 rfl ?_
          refine G.if_eqN (pc := 166) cx 0 (by omega) dL_law_166 (tgt := 201) (by decide) (fun cq166 => ?_) (fun cq166 => ?_)
          · skip
            refine G.castL (lv' := [(0, .ref K.2.2.2.2.2.1), (1, .ref x), (2, .ref (x + 194)), (3, .ref (x + 195)), (4, .ref (x + 196)), (5, .ref (x + 197)), (6, .ref (x + 198)), (7, .ref (x + 199)), (8, .int (nI k)), (9, .int u117), (10, .int u129)]) [3, 4, 5, 6, 7, 8, 9, 10, 11, 2, 1] rfl ?_
            exact J201_3
          · skip
            exact absurd cq166 (by decide)
        · skip
          refine G.iconst (pc := 157) cx dL_law_157 (v := 1) (by decide) ?_
          refine G.goto (pc := 158) cx dL_law_158 (tgt := 162) (by decide) ?_
          refine G.istore (pc := 162) cx dL_law_162 (by decide) rfl ?_
          refine G.iload (pc := 164) cx dL_law_164 0 rfl ?_
          refine G.if_eqN (pc := 166) cx 1 (by omega) dL_law_166 (tgt := 201) (by decide) (fun cq166 => ?_) (fun cq166 => ?_)
          · skip
            exact absurd cq166 (by decide)
          · skip
            refine G.aload_n (pc := 169) cx dL_law_169 rfl 4 rfl ?_
            refine G.iload (pc := 170) cx dL_law_170 11 rfl ?_
            refine G.bipush (pc := 172) cx dL_law_172 (v := 9) (by decide) ?_
            have J183_6 : G K p l e room_1 s9 m #[Value.ref K.2.2.2.2.2.1] below meth c (lw_Z below #[Value.ref K.2.2.2.2.2.1] s9) 13 (xwL K x z s z V) sz (201 + k) (1884 + 3 * k) 183 [(0, .ref K.2.2.2.2.2.1), (1, .ref x), (2, .ref (x + 194)), (3, .ref (x + 195)), (4, .ref (x + 196)), (5, .ref (x + 197)), (6, .ref (x + 198)), (7, .ref (x + 199)), (8, .int (nI k)), (9, .int u117), (10, .int u129), (11, .int 1)] [.int (if k < 9 then 0 else u117), .ref x] := by
              refine G.iload (pc := 183) cx dL_law_183 10 rfl ?_
              refine G.aload_n (pc := 185) cx dL_law_185 rfl 2 rfl ?_
              refine G.aload_n (pc := 186) cx dL_law_186 rfl 3 rfl ?_
              refine G.aload (pc := 187) cx dL_law_187 4 rfl ?_
              refine G.aload (pc := 189) cx dL_law_189 5 rfl ?_
              refine G.aload (pc := 191) cx dL_law_191 6 rfl ?_
              refine G.aload (pc := 193) cx dL_law_193 7 rfl ?_
              have h195 := c_L_ship l K sz x s z V (if k < 9 then 0 else u117) u129 k N S E D hI hS hN h16 hSe hS1 hE hE8 hD hD9 (by omega)
              refine G.callSp (pc := 195) (rest := []) (maxL := 16) (d := 7) cx h195 ok_L_ship dL_law_195 wm_ml_L_149 rfl rfl (Nat.le_of_ble_eq_true rfl) ⟨Nat.le_of_ble_eq_true rfl, Nat.le_of_ble_eq_true rfl⟩ ⟨by show _ ≤ 600000; omega, by show _ ≤ 7302250; omega⟩ ?_
              rintro rv195 V195 ⟨rfl, z2, s2, N2, rfl, hS2, hI2⟩
              obtain ⟨⟨hN2, h162⟩, -⟩ := id hI2
              obtain ⟨D2, hD92, hD2⟩ := hI2.dayN
              obtain ⟨E2, hE82, hE2⟩ := hI2.2.2.2.2.1
              obtain ⟨S2, hS12, hSe2⟩ := hI2.seaN
              refine G.castS (st' := [.int 1]) rfl ?_
              refine G.goto (pc := 198) cx dL_law_198 (tgt := 230) (by decide) ?_
              refine G.istore (pc := 230) cx dL_law_230 (by decide) rfl ?_
              refine G.iload (pc := 232) cx dL_law_232 0 rfl ?_
              refine G.if_eqN (pc := 234) cx 1 (by omega) dL_law_234 (tgt := 284) (by decide) (fun cq234 => ?_) (fun cq234 => ?_)
              · skip
                exact absurd cq234 (by decide)
              · skip
                refine G.aload_n (pc := 237) cx dL_law_237 rfl 2 rfl ?_
                refine G.aload_n (pc := 238) cx dL_law_238 rfl 3 rfl ?_
                refine G.aload_n (pc := 239) cx dL_law_239 rfl 4 rfl ?_
                refine G.aload (pc := 240) cx dL_law_240 5 rfl ?_
                refine G.aload (pc := 242) cx dL_law_242 6 rfl ?_
                refine G.aload (pc := 244) cx dL_law_244 7 rfl ?_
                refine G.aload (pc := 246) cx dL_law_246 8 rfl ?_
                refine G.callS (pc := 248) (rest := []) cx (c_L_isSo l K sz x s2 z2 V (k + 1) N2 D2 E2 hI2 hN2 h162 hD2 hD92 hE2 hE82 hsz) ok_L_isSo dL_law_248 wm_ml_L_138 rfl rfl (Nat.le_of_ble_eq_true rfl) (by omega) ⟨Nat.le_of_ble_eq_true rfl, Nat.le_of_ble_eq_true rfl⟩ ⟨by show _ ≤ 600000; omega, by show _ ≤ 7302250; omega⟩ ?_
                refine G.castS (st' := [.int 1]) rfl ?_
                refine G.if_eqN (pc := 251) cx 1 (by omega) dL_law_251 (tgt := 284) (by decide) (fun cq251 => ?_) (fun cq251 => ?_)
                · skip
                  exact absurd cq251 (by decide)
                · skip
                  refine G.aload_n (pc := 254) cx dL_law_254 rfl 3 rfl ?_
                  refine G.iconst (pc := 255) cx dL_law_255 (v := 4) (by decide) ?_
                  refine G.ialdV (pc := 256) cx dL_law_256 xl_g (j := 4) rfl (by omega) (by decide) ((xr_g (n := 194) (by omega) (by omega)).trans (hN2)) ?_
                  refine G.if_leN (pc := 257) cx N2 (by omega) dL_law_257 (tgt := 286) (by decide) (fun cq257 => ?_) (fun cq257 => ?_)
                  · skip
                    refine G.iinc (pc := 286) cx dL_law_286 (v := nI (k + 1)) (k := 9) rfl (nI_add k 1) (by decide) rfl ?_
                    refine G.goto (pc := 289) cx dL_law_289 (tgt := 105) (by decide) ?_
                    refine G.castL (lv' := [(0, .ref K.2.2.2.2.2.1), (1, .ref x), (2, .ref (x + 194)), (3, .ref (x + 195)), (4, .ref (x + 196)), (5, .ref (x + 197)), (6, .ref (x + 198)), (7, .ref (x + 199)), (8, .int (nI (k + 1)))]) [2, 3, 4, 5, 6, 7, 8, 9, 0] rfl ?_
                    exact ih (k + 1) (by omega) _ (sz + 1) z2 s2 N2 (by omega) hS2 hI2
                  · skip
                    refine G.aload_n (pc := 260) cx dL_law_260 rfl 2 rfl ?_
                    refine G.iload (pc := 261) cx dL_law_261 10 rfl ?_
                    refine G.bipush (pc := 263) cx dL_law_263 (v := 9) (by decide) ?_
                    refine G.ishr (pc := 265) cx dL_law_265 ?_
                    refine G.aload_n (pc := 266) cx dL_law_266 rfl 3 rfl ?_
                    refine G.iconst (pc := 267) cx dL_law_267 (v := 4) (by decide) ?_
                    refine G.ialdV (pc := 268) cx dL_law_268 xl_g (j := 4) rfl (by omega) (by decide) ((xr_g (n := 194) (by omega) (by omega)).trans (hN2)) ?_
                    obtain ⟨r269, hr269, hl269⟩ := k_low l K (sz + 1) (xwL K x z2 s2 z2 (svL K V sz (fun w => zSet z2 (nI w) N2))) (u117 >>> (9 &&& 31)) (n := N2) (by omega) (by omega)
                    refine G.callSg (pc := 269) (rest := [.ref x]) (st1 := [.int (nI r269), .ref x]) cx hl269 ok_L_low dL_law_269 wm_ml_L_27 rfl rfl (Nat.le_of_ble_eq_true rfl) ⟨Nat.le_of_ble_eq_true rfl, Nat.le_of_ble_eq_true rfl⟩ ⟨by show _ ≤ 600000; omega, by show _ ≤ 7302250; omega⟩ rfl ?_
                    refine G.aload_n (pc := 272) cx dL_law_272 rfl 3 rfl ?_
                    refine G.aload_n (pc := 273) cx dL_law_273 rfl 4 rfl ?_
                    refine G.aload (pc := 274) cx dL_law_274 5 rfl ?_
                    refine G.aload (pc := 276) cx dL_law_276 6 rfl ?_
                    refine G.callSg (pc := 278) (rest := []) (st1 := [.int 1]) cx (c_L_isClear l K (sz + 1) x s2 z2 (svL K V sz (fun w => zSet z2 (nI w) N2)) r269 (k + 1) N2 S2 hI2 (by omega) h162 hSe2 hS12) ok_L_isClear dL_law_278 wm_ml_L_156 rfl rfl (Nat.le_of_ble_eq_true rfl) ⟨Nat.le_of_ble_eq_true rfl, Nat.le_of_ble_eq_true rfl⟩ ⟨by show _ ≤ 600000; omega, by show _ ≤ 7302250; omega⟩ rfl ?_
                    refine G.if_neN (pc := 281) cx 1 (by omega) dL_law_281 (tgt := 286) (by decide) (fun cq281 => ?_) (fun cq281 => ?_)
                    · skip
                      refine G.iinc (pc := 286) cx dL_law_286 (v := nI (k + 1)) (k := 9) rfl (nI_add k 1) (by decide) rfl ?_
                      refine G.goto (pc := 289) cx dL_law_289 (tgt := 105) (by decide) ?_
                      refine G.castL (lv' := [(0, .ref K.2.2.2.2.2.1), (1, .ref x), (2, .ref (x + 194)), (3, .ref (x + 195)), (4, .ref (x + 196)), (5, .ref (x + 197)), (6, .ref (x + 198)), (7, .ref (x + 199)), (8, .int (nI (k + 1)))]) [2, 3, 4, 5, 6, 7, 8, 9, 0] rfl ?_
                      exact ih (k + 1) (by omega) _ (sz + 1) z2 s2 N2 (by omega) hS2 hI2
                    · skip
                      exact absurd cq281 (by decide)
            refine G.icmp_geN (pc := 174) cx k 9 (by omega) (by omega) dL_law_174 (tgt := 181) (by decide) (fun cq174 => ?_) (fun cq174 => ?_)
            · skip
              have nq174 := Nat.not_lt.mpr cq174
              refine G.iload (pc := 181) cx dL_law_181 2 rfl ?_
              refine G.castS (st' := [.int (if k < 9 then 0 else u117), .ref x]) (congrArg (fun q9 => ([.int q9, .ref x] : List Value)) (show (u117 : Int32) = if k < 9 then 0 else u117 from by first | exact (if_pos (by omega)).symm | exact (if_neg (by omega)).symm)) ?_
              refine G.castL (lv' := [(0, .ref K.2.2.2.2.2.1), (1, .ref x), (2, .ref (x + 194)), (3, .ref (x + 195)), (4, .ref (x + 196)), (5, .ref (x + 197)), (6, .ref (x + 198)), (7, .ref (x + 199)), (8, .int (nI k)), (9, .int u117), (10, .int u129), (11, .int 1)]) [3, 4, 5, 6, 7, 8, 9, 10, 11, 2, 1, 0] rfl ?_
              exact J183_6
            · skip
              have nq174 := Nat.not_le.mpr cq174
              refine G.iconst (pc := 177) cx dL_law_177 (v := 0) (by decide) ?_
              refine G.goto (pc := 178) cx dL_law_178 (tgt := 183) (by decide) ?_
              refine G.castS (st' := [.int (if k < 9 then 0 else u117), .ref x]) (congrArg (fun q9 => ([.int q9, .ref x] : List Value)) (show (0 : Int32) = if k < 9 then 0 else u117 from by first | exact (if_pos (by omega)).symm | exact (if_neg (by omega)).symm)) ?_
              refine G.castL (lv' := [(0, .ref K.2.2.2.2.2.1), (1, .ref x), (2, .ref (x + 194)), (3, .ref (x + 195)), (4, .ref (x + 196)), (5, .ref (x + 197)), (6, .ref (x + 198)), (7, .ref (x + 199)), (8, .int (nI k)), (9, .int u117), (10, .int u129), (11, .int 1)]) [3, 4, 5, 6, 7, 8, 9, 10, 11, 2, 1, 0] rfl ?_
              exact J183_6
end lawloop
