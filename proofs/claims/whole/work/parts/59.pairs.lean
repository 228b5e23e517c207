/-! A CALL OF BOTH OBJECTS: from the relation to the relation, with one answer -/
theorem ww_mw {K : KT} {x o : Nat} {z t f u g z2 : Zt} {h : Nat → Zt} {π : Nat → Nat} {r : Rt} {V : VW} (ho : x + 194 ≤ o) : ww K x z t h π f u g (mw K o z2 r V) = mw K o z2 r (ww K x z t h π f u g V) := by
  funext a; unfold ww mw
  by_cases h1 : x ≤ a ∧ a < x + 194
  · rw [if_pos h1, if_neg (by omega)]; exact (if_pos h1).symm
  · rw [if_neg h1]
    by_cases h2 : o ≤ a ∧ a < o + 6
    · rw [if_pos h2, if_pos h2]
    · rw [if_neg h2, if_neg h2]; exact (if_neg h1).symm
def Two (K : KT) (x o : Nat) (V0 : VW) (B : Nat) (V : VW) : Prop := ∃ (z t : Zt) (h : Nat → Zt) (π : Nat → Nat) (f u g : Zt) (r : Rt) (N n L : Nat), V = ww K x z t h π f u g (mw K o z r V0) ∧ (∀ p, seaIn (h p)) ∧ Re B z h π f g r N n L
def Pair (l : Launch) (K : KT) (sz x o : Nat) (V0 : VW) (B : Nat) (V : VW) (y1 : MethodName) (c1 : ByteArray) (n1 d1 : Nat) (y2 : MethodName) (c2 : ByteArray) (n2 d2 : Nat) (as : List Value) : Prop :=
  ∃ (v : Int32) (V1 V2 : VW), Ct l K y1 c1 n1 (some .int) d1 (.ref x :: as) V sz (some (.int v)) V1 sz 0 0 ∧ Ct l K y2 c2 n2 (some .int) d2 (.ref o :: as) V1 sz (some (.int v)) V2 sz 0 0 ∧ (∃ fs, V x = some (.inr (9, fs))) ∧ (∃ fs, V1 o = some (.inr (10, fs))) ∧ Two K x o V0 (B + 64) V2
theorem op_zt {B : Nat} {ce cA : Int32} {cD : Zt} {e A : Int32} {D z : Zt} (h : OpOk B ce cA cD e A D) (hz : seaIn z) : (if ce < 0 then z else cD) 191 = 0 ∨ (if ce < 0 then z else cD) 191 = 1 := by
  obtain ⟨rfl, h⟩ := h
  rcases h with h | ⟨h, -, -, hD, M, hI⟩
  · rw [if_pos h]; exact hz
  · rw [if_neg h, hD]; exact hI.2.1
theorem hset_sea {h : Nat → Zt} {p : Nat} {z : Zt} (hs : ∀ q, seaIn (h q)) (hz : seaIn z) : ∀ q, seaIn (hset h p z q) := fun q => by
  unfold hset
  by_cases e : q = p
  · rw [if_pos e]; exact hz
  · rw [if_neg e]; exact hs q
section pairs
variable {l : Launch} {K : KT} {sz x o : Nat} {V0 : VW} {B : Nat} {z t f u g : Zt} {h : Nat → Zt} {π : Nat → Nat} {r : Rt} {N n L : Nat}
theorem pair_change {y1 y2 : MethodName} {c1 c2 : ByteArray} {n1 d1 n2 d2 : Nat} {as : List Value} {ce cA e A : Int32} {cD D : Zt} (ho : x + 194 ≤ o) (hs : ∀ p, seaIn (h p)) (hR : Re B z h π f g r N n L) (hop : OpOk B ce cA cD e A D)
    (h1 : Ct l K y1 c1 n1 (some .int) d1 (.ref x :: as) (ww K x z t h π f u g (mw K o z r V0)) sz (some (.int (if ce < 0 then ce else cA))) (ww K x (sZ (if ce < 0 then ce else cA) z (if ce < 0 then z else cD)) (if ce < 0 then z else cD) (sH (if ce < 0 then ce else cA) h π z) (sP (if ce < 0 then ce else cA) π) f u (sG (if ce < 0 then ce else cA) n g) (mw K o z r V0)) sz 0 0)
    (h2 : ∀ V, Ct l K y2 c2 n2 (some .int) d2 (.ref o :: as) (mw K o z r V) sz (some (.int (if e < 0 then e else A))) (mw K o (if e < 0 then z else D) (if e < 0 then r else rRec r n z) V) sz 0 0) :
    Pair l K sz x o V0 B (ww K x z t h π f u g (mw K o z r V0)) y1 c1 n1 d1 y2 c2 n2 d2 as := by
  obtain ⟨rfl, hop⟩ := hop
  rcases hop with he | ⟨he, hA, hp, hD, M, hI⟩
  · simp only [if_pos he] at h1 h2
    have hn : ¬ 0 ≤ ce := Int32.not_le.mpr he
    unfold sZ sH sP sG at h1
    rw [if_neg hn, if_neg hn, if_neg hn, if_neg (fun q => hn q.1)] at h1
    have h3 := h2 (ww K x z z h π f u g V0)
    rw [← ww_mw ho] at h3
    exact ⟨_, _, _, h1, h3, ⟨_, ww_x⟩, ⟨_, by rw [ww_mw ho]; exact mw_m⟩, z, z, h, π, f, u, g, r, N, n, L, rfl, hs, Re_same hR (Nat.le_add_right B 64) rfl rfl rfl rfl rfl rfl⟩
  · subst hA; subst hD
    simp only [if_neg he] at h1 h2
    unfold sZ sH sP sG at h1
    rw [if_pos hp, if_pos hp, if_pos hp] at h1
    rw [show (if 0 ≤ cA ∧ n < 4 then upd g 0 (nI (n + 1)) else g) = (if n < 4 then upd g 0 (nI (n + 1)) else g) by
      by_cases hn : n < 4
      · rw [if_pos ⟨hp, hn⟩, if_pos hn]
      · rw [if_neg (fun q => hn q.2), if_neg hn]] at h1
    have h3 := h2 (ww K x cD cD (hset h (π 3) z) (rotR π) f u (if n < 4 then upd g 0 (nI (n + 1)) else g) V0)
    rw [← ww_mw ho, ← ww_mw ho] at h3
    exact ⟨_, _, _, h1, h3, ⟨_, ww_x⟩, ⟨_, by rw [ww_mw ho]; exact mw_m⟩, cD, cD, hset h (π 3) z, rotR π, f, u, _, _, M, recN n, L, rfl, hset_sea hs hR.1.2.1, Re_rec hR (Nat.le_add_right B 64) (hI.B (by omega)) rfl rfl rfl rfl rfl⟩
theorem pair_ask {y1 y2 : MethodName} {c1 c2 : ByteArray} {n1 d1 n2 d2 : Nat} {as : List Value} {v w : Int32} (ho : x + 194 ≤ o) (hs : ∀ p, seaIn (h p)) (hR : Re B z h π f g r N n L) (e : v = w)
    (h1 : Ct l K y1 c1 n1 (some .int) d1 (.ref x :: as) (ww K x z t h π f u g (mw K o z r V0)) sz (some (.int v)) (ww K x z t h π f u g (mw K o z r V0)) sz 0 0)
    (h2 : ∀ V, Ct l K y2 c2 n2 (some .int) d2 (.ref o :: as) (mw K o z r V) sz (some (.int w)) (mw K o z r V) sz 0 0) :
    Pair l K sz x o V0 B (ww K x z t h π f u g (mw K o z r V0)) y1 c1 n1 d1 y2 c2 n2 d2 as := by
  subst e
  have h3 := h2 (ww K x z t h π f u g V0)
  rw [← ww_mw ho] at h3
  exact ⟨_, _, _, h1, h3, ⟨_, ww_x⟩, ⟨_, by rw [ww_mw ho]; exact mw_m⟩, z, t, h, π, f, u, g, r, N, n, L, rfl, hs, Re_same hR (Nat.le_add_right B 64) rfl rfl rfl rfl rfl rfl⟩
theorem pr_sign (ho : x + 194 ≤ o) (hs : ∀ p, seaIn (h p)) (hR : Re B z h π f g r N n L) (q w : Int32) : Pair l K sz x o V0 B (ww K x z t h π f u g (mw K o z r V0)) yX9_sign cX9_sign 3 5 yX10_sign cX10_sign 4 3 [.int q, .int w] := by
  have hop := op_sign hR.1 q w
  obtain ⟨⟨hN, h16⟩, hz, -⟩ := id hR.1
  obtain ⟨h4, hm, hn⟩ := id hR.2.1
  have hp := hR.2.2.2.2.1
  exact pair_change ho hs hR hop (c_X9_sign l K sz x z t h π f u g (mw K o z r V0) q w n N hm h4 hp hz hN h16 (op_zt hop hz)) (fun V => c_X10_sign l K sz o z r V q w N n hN h16 hn h4)
theorem pr_stock (ho : x + 194 ≤ o) (hs : ∀ p, seaIn (h p)) (hR : Re B z h π f g r N n L) (i m c : Int32) : Pair l K sz x o V0 B (ww K x z t h π f u g (mw K o z r V0)) yX9_stock cX9_stock 4 5 yX10_stock cX10_stock 5 3 [.int i, .int m, .int c] := by
  have hop := op_stock hR.1 i m c
  obtain ⟨⟨hN, h16⟩, hz, -⟩ := id hR.1
  obtain ⟨h4, hm, hn⟩ := id hR.2.1
  have hp := hR.2.2.2.2.1
  exact pair_change ho hs hR hop (c_X9_stock l K sz x z t h π f u g (mw K o z r V0) i m c n N hm h4 hp hz hN h16 (op_zt hop hz)) (fun V => c_X10_stock l K sz o z r V i m c n hn h4)
theorem pr_sell (ho : x + 194 ≤ o) (hs : ∀ p, seaIn (h p)) (hR : Re B z h π f g r N n L) (a i m : Int32) : Pair l K sz x o V0 B (ww K x z t h π f u g (mw K o z r V0)) yX9_sell cX9_sell 4 5 yX10_sell cX10_sell 5 5 [.int a, .int i, .int m] := by
  have hop := op_sell hR.1 a i m
  obtain ⟨⟨hN, h16⟩, hz, -⟩ := id hR.1
  obtain ⟨h4, hm, hn⟩ := id hR.2.1
  have hp := hR.2.2.2.2.1
  exact pair_change ho hs hR hop (c_X9_sell l K sz x z t h π f u g (mw K o z r V0) a i m n N hm h4 hp hz hN h16 (op_zt hop hz)) (fun V => c_X10_sell l K sz o z r V a i m N n hN h16 hn h4)
theorem pr_advance (ho : x + 194 ≤ o) (hs : ∀ p, seaIn (h p)) (hR : Re B z h π f g r N n L) (a y : Int32) : Pair l K sz x o V0 B (ww K x z t h π f u g (mw K o z r V0)) yX9_advance cX9_advance 3 5 yX10_advance cX10_advance 4 4 [.int a, .int y] := by
  have hop := op_adv hR.1 a y
  obtain ⟨⟨hN, h16⟩, hz, -⟩ := id hR.1
  obtain ⟨h4, hm, hn⟩ := id hR.2.1
  have hp := hR.2.2.2.2.1
  exact pair_change ho hs hR hop (c_X9_advance l K sz x z t h π f u g (mw K o z r V0) a y n N hm h4 hp hz hN h16 (op_zt hop hz)) (fun V => c_X10_advance l K sz o z r V a y N n hN h16 hn h4)
theorem pr_fine (ho : x + 194 ≤ o) (hs : ∀ p, seaIn (h p)) (hR : Re B z h π f g r N n L) (a y : Int32) : Pair l K sz x o V0 B (ww K x z t h π f u g (mw K o z r V0)) yX9_fine cX9_fine 3 5 yX10_fine cX10_fine 4 4 [.int a, .int y] := by
  have hop := op_fine hR.1 a y
  obtain ⟨⟨hN, h16⟩, hz, -⟩ := id hR.1
  obtain ⟨h4, hm, hn⟩ := id hR.2.1
  have hp := hR.2.2.2.2.1
  exact pair_change ho hs hR hop (c_X9_fine l K sz x z t h π f u g (mw K o z r V0) a y n N hm h4 hp hz hN h16 (op_zt hop hz)) (fun V => c_X10_fine l K sz o z r V a y N n hN h16 hn h4)
theorem pr_fineWatch (ho : x + 194 ≤ o) (hs : ∀ p, seaIn (h p)) (hR : Re B z h π f g r N n L) (w y : Int32) : Pair l K sz x o V0 B (ww K x z t h π f u g (mw K o z r V0)) yX9_fineWatch cX9_fineWatch 3 5 yX10_fineWatch cX10_fineWatch 6 4 [.int w, .int y] := by
  have hop := op_fineW hR.1 w y
  obtain ⟨⟨hN, h16⟩, hz, -⟩ := id hR.1
  obtain ⟨h4, hm, hn⟩ := id hR.2.1
  have hp := hR.2.2.2.2.1
  exact pair_change ho hs hR hop (c_X9_fineWatch l K sz x z t h π f u g (mw K o z r V0) w y n N hm h4 hp hz hN h16 (op_zt hop hz)) (fun V => c_X10_fineWatch l K sz o z r V w y N n hN h16 hn h4)
theorem pr_leave (ho : x + 194 ≤ o) (hs : ∀ p, seaIn (h p)) (hR : Re B z h π f g r N n L) (w : Int32) : Pair l K sz x o V0 B (ww K x z t h π f u g (mw K o z r V0)) yX9_leave cX9_leave 2 5 yX10_leave cX10_leave 3 3 [.int w] := by
  have hop := op_leave hR.1 w
  obtain ⟨⟨hN, h16⟩, hz, -⟩ := id hR.1
  obtain ⟨h4, hm, hn⟩ := id hR.2.1
  have hp := hR.2.2.2.2.1
  exact pair_change ho hs hR hop (c_X9_leave l K sz x z t h π f u g (mw K o z r V0) w n N hm h4 hp hz hN h16 (op_zt hop hz)) (fun V => c_X10_leave l K sz o z r V w N n hN h16 hn h4)
theorem pr_back (ho : x + 194 ≤ o) (hs : ∀ p, seaIn (h p)) (hR : Re B z h π f g r N n L) (a y : Int32) : Pair l K sz x o V0 B (ww K x z t h π f u g (mw K o z r V0)) yX9_back cX9_back 3 5 yX10_back cX10_back 4 4 [.int a, .int y] := by
  have hop := op_back hR.1 a y
  obtain ⟨⟨hN, h16⟩, hz, -⟩ := id hR.1
  obtain ⟨h4, hm, hn⟩ := id hR.2.1
  have hp := hR.2.2.2.2.1
  exact pair_change ho hs hR hop (c_X9_back l K sz x z t h π f u g (mw K o z r V0) a y n N hm h4 hp hz hN h16 (op_zt hop hz)) (fun V => c_X10_back l K sz o z r V a y N n hN h16 hn h4)
theorem pr_sail (ho : x + 194 ≤ o) (hs : ∀ p, seaIn (h p)) (hR : Re B z h π f g r N n L) : Pair l K sz x o V0 B (ww K x z t h π f u g (mw K o z r V0)) yX9_sail cX9_sail 1 5 yX10_sail cX10_sail 2 4 [] := by
  have hop := op_sail hR.1
  obtain ⟨⟨hN, h16⟩, hz, -⟩ := id hR.1
  obtain ⟨h4, hm, hn⟩ := id hR.2.1
  have hp := hR.2.2.2.2.1
  exact pair_change ho hs hR hop (c_X9_sail l K sz x z t h π f u g (mw K o z r V0)  n N hm h4 hp hz hN h16 (op_zt hop hz)) (fun V => c_X10_sail l K sz o z r V  N n hN h16 hn h4)
theorem pr_port (ho : x + 194 ≤ o) (hs : ∀ p, seaIn (h p)) (hR : Re B z h π f g r N n L) (hB : B < 1000000) : Pair l K sz x o V0 B (ww K x z t h π f u g (mw K o z r V0)) yX9_port cX9_port 1 5 yX10_port cX10_port 2 2 [] := by
  have hop := op_port hR.1 hB
  obtain ⟨⟨hN, h16⟩, hz, -⟩ := id hR.1
  obtain ⟨h4, hm, hn⟩ := id hR.2.1
  have hp := hR.2.2.2.2.1
  exact pair_change ho hs hR hop (c_X9_port l K sz x z t h π f u g (mw K o z r V0)  n N hm h4 hp hz hN h16 (op_zt hop hz)) (fun V => c_X10_port l K sz o z r V  n hn h4)
theorem pr_days (ho : x + 194 ≤ o) (hs : ∀ p, seaIn (h p)) (hR : Re B z h π f g r N n L) (m : Int32) : Pair l K sz x o V0 B (ww K x z t h π f u g (mw K o z r V0)) yX9_days cX9_days 2 5 yX10_days cX10_days 3 3 [.int m] := by
  have hop := op_days hR.1 m
  obtain ⟨⟨hN, h16⟩, hz, -⟩ := id hR.1
  obtain ⟨h4, hm, hn⟩ := id hR.2.1
  have hp := hR.2.2.2.2.1
  exact pair_change ho hs hR hop (c_X9_days l K sz x z t h π f u g (mw K o z r V0) m n N hm h4 hp hz hN h16 (op_zt hop hz)) (fun V => c_X10_days l K sz o z r V m N n hN h16 hn h4)
theorem pr_dismiss (ho : x + 194 ≤ o) (hs : ∀ p, seaIn (h p)) (hR : Re B z h π f g r N n L) (a : Int32) : Pair l K sz x o V0 B (ww K x z t h π f u g (mw K o z r V0)) yX9_dismiss cX9_dismiss 2 5 yX10_dismiss cX10_dismiss 3 3 [.int a] := by
  have hop := op_dis hR.1 a
  obtain ⟨⟨hN, h16⟩, hz, -⟩ := id hR.1
  obtain ⟨h4, hm, hn⟩ := id hR.2.1
  have hp := hR.2.2.2.2.1
  exact pair_change ho hs hR hop (c_X9_dismiss l K sz x z t h π f u g (mw K o z r V0) a n N hm h4 hp hz hN h16 (op_zt hop hz)) (fun V => c_X10_dismiss l K sz o z r V a N n hN h16 hn h4)
theorem pr_payOff (ho : x + 194 ≤ o) (hs : ∀ p, seaIn (h p)) (hR : Re B z h π f g r N n L) : Pair l K sz x o V0 B (ww K x z t h π f u g (mw K o z r V0)) yX9_payOff cX9_payOff 1 5 yX10_payOff cX10_payOff 2 4 [] := by
  have hop := op_po hR.1
  obtain ⟨⟨hN, h16⟩, hz, -⟩ := id hR.1
  obtain ⟨h4, hm, hn⟩ := id hR.2.1
  have hp := hR.2.2.2.2.1
  exact pair_change ho hs hR hop (c_X9_payOff l K sz x z t h π f u g (mw K o z r V0)  n N hm h4 hp hz hN h16 (op_zt hop hz)) (fun V => c_X10_payOff l K sz o z r V  N n hN h16 hn h4)
theorem pr_set (ho : x + 194 ≤ o) (hs : ∀ p, seaIn (h p)) (hR : Re B z h π f g r N n L) (q v : Int32) : Pair l K sz x o V0 B (ww K x z t h π f u g (mw K o z r V0)) yX9_set cX9_set 3 5 yX10_set cX10_set 4 1 [.int q, .int v] := by
  have hop := op_set hR.1 q v
  obtain ⟨⟨hN, h16⟩, hz, -⟩ := id hR.1
  obtain ⟨h4, hm, hn⟩ := id hR.2.1
  have hp := hR.2.2.2.2.1
  exact pair_change ho hs hR hop (c_X9_set l K sz x z t h π f u g (mw K o z r V0) q v n N hm h4 hp hz hN h16 (op_zt hop hz)) (fun V => c_X10_set l K sz o z r V q v n hn h4)
theorem pr_sailor (ho : x + 194 ≤ o) (hs : ∀ p, seaIn (h p)) (hR : Re B z h π f g r N n L) (a q : Int32) : Pair l K sz x o V0 B (ww K x z t h π f u g (mw K o z r V0)) yX9_sailor cX9_sailor 4 5 yX10_sailor cX10_sailor 3 4 [.int a, .int q] := by
  obtain ⟨⟨hN, h16⟩, hz, -⟩ := id hR.1
  obtain ⟨h4, hm, hn⟩ := id hR.2.1
  obtain ⟨hl, hl1, hl2⟩ := id hR.2.2.1
  exact pair_ask ho hs hR (q_sailor hR.1 a q) (c_X9_sailor l K sz x z t h π f u g (mw K o z r V0) a q N hN h16) (fun V => c_X10_sailor l K sz o z r V a q N hN h16)
theorem pr_item (ho : x + 194 ≤ o) (hs : ∀ p, seaIn (h p)) (hR : Re B z h π f g r N n L) (i q : Int32) : Pair l K sz x o V0 B (ww K x z t h π f u g (mw K o z r V0)) yX9_item cX9_item 4 5 yX10_item cX10_item 3 2 [.int i, .int q] := by
  obtain ⟨⟨hN, h16⟩, hz, -⟩ := id hR.1
  obtain ⟨h4, hm, hn⟩ := id hR.2.1
  obtain ⟨hl, hl1, hl2⟩ := id hR.2.2.1
  exact pair_ask ho hs hR (q_item z i q) (c_X9_item l K sz x z t h π f u g (mw K o z r V0) i q ) (fun V => c_X10_item l K sz o z r V i q )
theorem pr_why (ho : x + 194 ≤ o) (hs : ∀ p, seaIn (h p)) (hR : Re B z h π f g r N n L) (a i m : Int32) : Pair l K sz x o V0 B (ww K x z t h π f u g (mw K o z r V0)) yX9_why cX9_why 4 5 yX10_why cX10_why 4 4 [.int a, .int i, .int m] := by
  obtain ⟨⟨hN, h16⟩, hz, -⟩ := id hR.1
  obtain ⟨h4, hm, hn⟩ := id hR.2.1
  obtain ⟨hl, hl1, hl2⟩ := id hR.2.2.1
  exact pair_ask ho hs hR (q_why hR.1 a i m) (c_X9_why l K sz x z t h π f u g (mw K o z r V0) a i m N hN h16) (fun V => c_X10_why l K sz o z r V a i m N hN h16)
theorem pr_most (ho : x + 194 ≤ o) (hs : ∀ p, seaIn (h p)) (hR : Re B z h π f g r N n L) (a i : Int32) : Pair l K sz x o V0 B (ww K x z t h π f u g (mw K o z r V0)) yX9_most cX9_most 3 5 yX10_most cX10_most 4 4 [.int a, .int i] := by
  obtain ⟨⟨hN, h16⟩, hz, -⟩ := id hR.1
  obtain ⟨h4, hm, hn⟩ := id hR.2.1
  obtain ⟨hl, hl1, hl2⟩ := id hR.2.2.1
  exact pair_ask ho hs hR (q_most hR.1 a i) (c_X9_most l K sz x z t h π f u g (mw K o z r V0) a i N hN h16) (fun V => c_X10_most l K sz o z r V a i N hN h16)
theorem pr_clearIn (ho : x + 194 ≤ o) (hs : ∀ p, seaIn (h p)) (hR : Re B z h π f g r N n L) (a : Int32) : Pair l K sz x o V0 B (ww K x z t h π f u g (mw K o z r V0)) yX9_clearIn cX9_clearIn 2 5 yX10_clearIn cX10_clearIn 7 2 [.int a] := by
  obtain ⟨⟨hN, h16⟩, hz, -⟩ := id hR.1
  obtain ⟨h4, hm, hn⟩ := id hR.2.1
  obtain ⟨hl, hl1, hl2⟩ := id hR.2.2.1
  exact pair_ask ho hs hR (q_clear hR.1 a) (c_X9_clearIn l K sz x z t h π f u g (mw K o z r V0) a N hN h16) (fun V => c_X10_clearIn l K sz o z r V a N hN h16)
theorem pr_ifPaidOff (ho : x + 194 ≤ o) (hs : ∀ p, seaIn (h p)) (hR : Re B z h π f g r N n L) (q : Int32) : Pair l K sz x o V0 B (ww K x z t h π f u g (mw K o z r V0)) yX9_ifPaidOff cX9_ifPaidOff 2 5 yX10_ifPaidOff cX10_ifPaidOff 7 3 [.int q] := by
  obtain ⟨⟨hN, h16⟩, hz, -⟩ := id hR.1
  obtain ⟨h4, hm, hn⟩ := id hR.2.1
  obtain ⟨hl, hl1, hl2⟩ := id hR.2.2.1
  exact pair_ask ho hs hR (q_ifpo hR.1 q) (c_X9_ifPaidOff l K sz x z t h π f u g (mw K o z r V0) q N hN h16) (fun V => c_X10_ifPaidOff l K sz o z r V q N hN h16)
theorem pr_poorest (ho : x + 194 ≤ o) (hs : ∀ p, seaIn (h p)) (hR : Re B z h π f g r N n L) (p : Int32) : Pair l K sz x o V0 B (ww K x z t h π f u g (mw K o z r V0)) yX9_poorest cX9_poorest 2 5 yX10_poorest cX10_poorest 7 3 [.int p] := by
  obtain ⟨⟨hN, h16⟩, hz, -⟩ := id hR.1
  obtain ⟨h4, hm, hn⟩ := id hR.2.1
  obtain ⟨hl, hl1, hl2⟩ := id hR.2.2.1
  exact pair_ask ho hs hR (q_poor hR.1 p) (c_X9_poorest l K sz x z t h π f u g (mw K o z r V0) p N hN h16) (fun V => c_X10_poorest l K sz o z r V p N hN h16)
theorem pr_count (ho : x + 194 ≤ o) (hs : ∀ p, seaIn (h p)) (hR : Re B z h π f g r N n L) (q : Int32) : Pair l K sz x o V0 B (ww K x z t h π f u g (mw K o z r V0)) yX9_count cX9_count 2 3 yX10_count cX10_count 2 2 [.int q] := by
  obtain ⟨⟨hN, h16⟩, hz, -⟩ := id hR.1
  obtain ⟨h4, hm, hn⟩ := id hR.2.1
  obtain ⟨hl, hl1, hl2⟩ := id hR.2.2.1
  exact pair_ask ho hs hR (q_count hR.1 (hn.trans hm.symm) (hl2.trans hl1.symm) q) (c_X9_count l K sz x z t h π f u g (mw K o z r V0) q N hN h16) (fun V => c_X10_count l K sz o z r V q N hN h16)
theorem pr_book (ho : x + 194 ≤ o) (hs : ∀ p, seaIn (h p)) (hR : Re B z h π f g r N n L) (y q : Int32) : Pair l K sz x o V0 B (ww K x z t h π f u g (mw K o z r V0)) yX9_book cX9_book 3 3 yX10_book cX10_book 3 1 [.int y, .int q] := by
  have hE := hR.1.2.2.2.2.1
  obtain ⟨E, hE8, hE1⟩ := id hE
  exact pair_ask ho hs hR (q_book hE y q) (c_X9_book l K sz x z t h π f u g (mw K o z r V0) y q E hE1 hE8) (fun V => c_X10_book l K sz o z r V y q E hE1 hE8)
theorem pr_undo (ho : x + 194 ≤ o) (hs : ∀ p, seaIn (h p)) (hR : Re B z h π f g r N n L) : Pair l K sz x o V0 B (ww K x z t h π f u g (mw K o z r V0)) yX9_undo cX9_undo 1 4 yX10_undo cX10_undo 2 0 [] := by
  obtain ⟨h4, hm, hn⟩ := id hR.2.1
  have hp := hR.2.2.2.2.1
  have h1 := c_X9_undo l K sz x z t h π f u g (mw K o z r V0) n hm h4 hp (hs (π 0))
  by_cases e : n = 0
  · simp only [if_pos e] at h1
    exact pair_ask ho hs hR rfl h1 (fun V => c_X10_undo0 l K sz o z r V (by rw [hn, e]; rfl))
  · simp only [if_neg e] at h1
    obtain ⟨M, hR2, hz2⟩ := Re_undo hR (Nat.le_add_right B 64) (by omega)
    have h3 := c_X10_undo l K sz o z r (ww K x (h (π 0)) t h (rotL π) f u (upd g 0 (nI (n - 1))) V0) n hn ⟨by omega, h4⟩
    rw [mw_eq (z := fun i => r.2.1 (231 * (n - 1) + i)) (z' := h (π 0)) (fun i hi => (hz2 i hi).symm), ← ww_mw ho, ← ww_mw ho] at h3
    exact ⟨_, _, _, h1, h3, ⟨_, ww_x⟩, ⟨_, by rw [ww_mw ho]; exact mw_m⟩, _, t, h, _, f, u, _, _, M, n - 1, L, rfl, hs, hR2⟩
theorem pr_type (ho : x + 194 ≤ o) (hs : ∀ p, seaIn (h p)) (hR : Re B z h π f g r N n L) (y : Int32) : Pair l K sz x o V0 B (ww K x z t h π f u g (mw K o z r V0)) yX9_type cX9_type 2 2 yX10_type cX10_type 2 1 [.int y] := by
  obtain ⟨hl, hl1, hl2⟩ := id hR.2.2.1
  obtain ⟨e, L2, hR2⟩ := Re_type hR (Nat.le_add_right B 64) y
  have h1 := c_X9_type l K sz x z t h π f u g (mw K o z r V0) y L hl1 hl
  rw [e] at h1
  have h3 := c_X10_type l K sz o z r (ww K x z t h π (if (32 ≤ y ∧ y ≤ 126) ∧ L < 60 then upd f L y else f) u (if (32 ≤ y ∧ y ≤ 126) ∧ L < 60 then upd g 1 (nI (L + 1)) else g) V0) y L hl2 hl
  rw [← ww_mw ho, ← ww_mw ho] at h3
  exact ⟨_, _, _, h1, h3, ⟨_, ww_x⟩, ⟨_, by rw [ww_mw ho]; exact mw_m⟩, z, t, h, π, _, u, _, _, N, n, L2, rfl, hs, hR2⟩
theorem pr_clearText (ho : x + 194 ≤ o) (hs : ∀ p, seaIn (h p)) (hR : Re B z h π f g r N n L) : Pair l K sz x o V0 B (ww K x z t h π f u g (mw K o z r V0)) yX9_clearText cX9_clearText 1 2 yX10_clearText cX10_clearText 2 0 [] := by
  obtain ⟨hl, hl1, hl2⟩ := id hR.2.2.1
  have h1 := c_X9_clearText l K sz x z t h π f u g (mw K o z r V0)
  rw [hl1] at h1
  have h3 := c_X10_clearText l K sz o z r (ww K x z t h π f u (upd g 1 0) V0) L hl2
  rw [← ww_mw ho, ← ww_mw ho] at h3
  exact ⟨_, _, _, h1, h3, ⟨_, ww_x⟩, ⟨_, by rw [ww_mw ho]; exact mw_m⟩, z, t, h, π, f, u, _, _, N, n, 0, rfl, hs, Re_clear hR (Nat.le_add_right B 64)⟩
theorem pr_fault (ho : x + 194 ≤ o) (hs : ∀ p, seaIn (h p)) (hR : Re B z h π f g r N n L) (hB : B + 60 < 1000000) (q : Int32) : Pair l K sz x o V0 B (ww K x z t h π f u g (mw K o z r V0)) yX9_fault cX9_fault 2 8 yX10_fault cX10_fault 3 7 [.int q] := by
  obtain ⟨⟨hN, h16⟩, hz, -⟩ := id hR.1
  obtain ⟨hl, hl1, hl2⟩ := id hR.2.2.1
  obtain ⟨t1, t2, t3, t4, t5⟩ := run_tell (nu := u) (nv := r.2.2.2.1) (g := g) (Re_sim hR) hR.1 hB hl
  have h1 := c_X9_fault l K sz x z t h π f u g (mw K o z r V0) q L hl1 hl hz t1
  by_cases hq : 0 ≤ q ∧ q ≤ 2
  · simp only [if_neg (not_not_intro hq)] at h1
    rw [t3 q hq] at h1
    have h3 := c_X10_fault l K sz o z r (ww K x z (cxZ (cAt f L) L u z) h π f (cxN (cAt f L) L u z) (cxG (cAt f L) L u z g) V0) q L N hl2 hl hN h16
    simp only [if_neg (not_not_intro hq)] at h3
    rw [← ww_mw ho, ← ww_mw ho] at h3
    refine ⟨_, _, _, h1, h3, ⟨_, ww_x⟩, ⟨_, by rw [ww_mw ho]; exact mw_m⟩, z, _, h, π, f, _, _, _, N, n, L, rfl, hs, Re_same hR (Nat.le_add_right B 64) (cxG_k _ _ _ _ _ (by omega)) (cxG_k _ _ _ _ _ (by omega)) rfl rfl (txG_k _ _ _ _ _ (Or.inl rfl)) (txG_k _ _ _ _ _ (Or.inr rfl))⟩
  · have hf : mFault (tAt r.2.2.1 L) L r.2.2.2.1 z q = -1000001 := if_pos hq
    simp only [if_pos hq] at h1
    refine pair_ask ho hs hR rfl h1 (fun V => ?_)
    have h3 := c_X10_fault l K sz o z r V q L N hl2 hl hN h16
    rw [hf] at h3
    simp only [if_pos hq] at h3
    exact h3
theorem pr_play (ho : x + 194 ≤ o) (hs : ∀ p, seaIn (h p)) (hR : Re B z h π f g r N n L) (hB : B + 60 < 1000000) : Pair l K sz x o V0 B (ww K x z t h π f u g (mw K o z r V0)) yX9_play cX9_play 1 8 yX10_play cX10_play 1 7 [] := by
  obtain ⟨⟨hN, h16⟩, hz, -⟩ := id hR.1
  obtain ⟨hl, hl1, hl2⟩ := id hR.2.2.1
  obtain ⟨h4, hm, hn⟩ := id hR.2.1
  have hp := hR.2.2.2.2.1
  obtain ⟨t1, t2, t3, t4, t5⟩ := run_tell (nu := u) (nv := r.2.2.2.1) (g := g) (Re_sim hR) hR.1 hB hl
  have h1 := c_X9_play l K sz x z t h π f u g (mw K o z r V0) L n hl1 hl hm h4 hp hz t1 t2
  rw [t4] at h1
  have h2 := fun V => c_X10_play l K sz o z r V L N n hl2 hl hN h16 hn h4
  by_cases hk : L ≤ tU (tAt r.2.2.1 L) (txK (tAt r.2.2.1 L) L r.2.2.2.1 z L 0)
  · obtain ⟨d1, ⟨M, d2⟩, d3⟩ := t5 hk
    simp only [if_pos hk] at h1 h2
    unfold sZ sH sP sG at h1
    rw [if_pos d3, if_pos d3, if_pos d3, d1] at h1
    rw [show (if 0 ≤ nI (txK (tAt r.2.2.1 L) L r.2.2.2.1 z L 0) ∧ n < 4 then upd (cxG (cAt f L) L u z g) 0 (nI (n + 1)) else cxG (cAt f L) L u z g) = (if n < 4 then upd (cxG (cAt f L) L u z g) 0 (nI (n + 1)) else cxG (cAt f L) L u z g) by
      by_cases hn : n < 4
      · rw [if_pos ⟨d3, hn⟩, if_pos hn]
      · rw [if_neg (fun q => hn q.2), if_neg hn]] at h1
    have h3 := h2 (ww K x (tZ (tAt r.2.2.1 L) r.2.2.2.1 z (txK (tAt r.2.2.1 L) L r.2.2.2.1 z L 0)) (tZ (tAt r.2.2.1 L) r.2.2.2.1 z (txK (tAt r.2.2.1 L) L r.2.2.2.1 z L 0)) (hset h (π 3) z) (rotR π) f (cxN (cAt f L) L u z) (if n < 4 then upd (cxG (cAt f L) L u z g) 0 (nI (n + 1)) else cxG (cAt f L) L u z g) V0)
    rw [← ww_mw ho, ← ww_mw ho] at h3
    exact ⟨_, _, _, h1, h3, ⟨_, ww_x⟩, ⟨_, by rw [ww_mw ho]; exact mw_m⟩, _, _, hset h (π 3) z, rotR π, f, _, _, _, M, recN n, L, rfl, hset_sea hs hz, Re_rec hR (Nat.le_add_right B 64) (d2.B (by omega)) (cxG_k _ _ _ _ _ (by omega)) (cxG_k _ _ _ _ _ (by omega)) rfl rfl (txG_k _ _ _ _ _ (Or.inr rfl))⟩
  · simp only [if_neg hk] at h1 h2
    have hy : ¬ (0 : Int32) ≤ -1000002 := by decide
    unfold sZ sH sP sG at h1
    rw [if_neg hy, if_neg hy, if_neg hy, if_neg (fun q => hy q.1)] at h1
    have h3 := h2 (ww K x z (cxZ (cAt f L) L u z) h π f (cxN (cAt f L) L u z) (cxG (cAt f L) L u z g) V0)
    rw [← ww_mw ho, ← ww_mw ho] at h3
    exact ⟨_, _, _, h1, h3, ⟨_, ww_x⟩, ⟨_, by rw [ww_mw ho]; exact mw_m⟩, z, _, h, π, f, _, _, _, N, n, L, rfl, hs, Re_same hR (Nat.le_add_right B 64) (cxG_k _ _ _ _ _ (by omega)) (cxG_k _ _ _ _ _ (by omega)) rfl rfl (txG_k _ _ _ _ _ (Or.inl rfl)) (txG_k _ _ _ _ _ (Or.inr rfl))⟩
end pairs
