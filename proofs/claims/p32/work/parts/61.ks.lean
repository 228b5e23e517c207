/-! THE CLASS'S CALLS over the law's picture: a change is refused or done, a question answers by the numbers -/
def SOK (s : Ot) : Prop := (∀ p, seaIn (s.2.1 p)) ∧ (∃ n : Nat, n ≤ 4 ∧ s.2.2.2.2.2 0 = nI n) ∧ ∀ k, k < 4 → s.2.2.1 k < 4
theorem op_zt {B : Nat} {ce cA : Int32} {cD : Zt} {e A : Int32} {D z : Zt} (h : OpOk B ce cA cD e A D) (hz : seaIn z) : (if ce < 0 then z else cD) 191 = 0 ∨ (if ce < 0 then z else cD) 191 = 1 := by
  obtain ⟨rfl, h⟩ := h
  rcases h with h | ⟨h, -, -, hD, M, hI⟩
  · rw [if_pos h]; exact hz
  · rw [if_neg h, hD]; exact hI.2.1
theorem hset_sea {h : Nat → Zt} {p : Nat} {z : Zt} (hs : ∀ q, seaIn (h q)) (hz : seaIn z) : ∀ q, seaIn (hset h p z q) := fun q => by
  unfold hset
  by_cases e : q = p
  · rw [if_pos e]; exact hz
  · rw [if_neg e]; exact hs q
theorem rotR_lt {π : Nat → Nat} (h : ∀ k, k < 4 → π k < 4) : ∀ k, k < 4 → rotR π k < 4 := by
  intro k hk
  rcases (show k = 0 ∨ k = 1 ∨ k = 2 ∨ k = 3 by omega) with rfl | rfl | rfl | rfl
  · exact h 3 (by omega)
  · exact h 0 (by omega)
  · exact h 1 (by omega)
  · exact h 2 (by omega)
def Kc (l : Launch) (K : KT) (y1 : MethodName) (c1 : ByteArray) (n1 d1 x : Nat) (as : List Value) (z : Zt) (s : Ot) (y : Zt) (V : VW) (sz B : Nat) (e A : Int32) (D : Zt) : Prop :=
  ∃ s2 : Ot, SOK s2 ∧ Ct l K y1 c1 n1 (some .int) d1 (.ref x :: as) (xwL K x z s y V) sz (some (.int (if e < 0 then e else A))) (xwL K x (if e < 0 then z else D) s2 y V) sz 0 0 ∧ (e < 0 ∨ ∃ M, INV (B + 1) M D)
section ks
variable {l : Launch} {K : KT} {sz x : Nat} {V : VW} {B N : Nat} {z y : Zt} {s : Ot}
theorem k_change {y1 : MethodName} {c1 : ByteArray} {n1 d1 n : Nat} {as : List Value} {ce cA e A : Int32} {cD D : Zt} (hS : SOK s) (hz : seaIn z) (hn4 : n ≤ 4) (hg : s.2.2.2.2.2 0 = nI n) (hop : OpOk B ce cA cD e A D)
    (h1 : Ct l K y1 c1 n1 (some .int) d1 (.ref x :: as) (ww K x z s.1 s.2.1 s.2.2.1 s.2.2.2.1 s.2.2.2.2.1 s.2.2.2.2.2 (pwL K (x + 194) y V)) sz (some (.int (if ce < 0 then ce else cA))) (ww K x (sZ (if ce < 0 then ce else cA) z (if ce < 0 then z else cD)) (if ce < 0 then z else cD) (sH (if ce < 0 then ce else cA) s.2.1 s.2.2.1 z) (sP (if ce < 0 then ce else cA) s.2.2.1) s.2.2.2.1 s.2.2.2.2.1 (sG (if ce < 0 then ce else cA) n s.2.2.2.2.2) (pwL K (x + 194) y V)) sz 0 0) :
    Kc l K y1 c1 n1 d1 x as z s y V sz B e A D := by
  obtain ⟨hs, -, hp⟩ := hS
  obtain ⟨rfl, hop⟩ := hop
  rcases hop with he | ⟨he, hA, hq, hD, M, hI⟩
  · simp only [if_pos he] at h1
    have hn : ¬ 0 ≤ ce := Int32.not_le.mpr he
    unfold sZ sH sP sG at h1
    rw [if_neg hn, if_neg hn, if_neg hn, if_neg (fun q => hn q.1)] at h1
    refine ⟨(z, s.2.1, s.2.2.1, s.2.2.2.1, s.2.2.2.2.1, s.2.2.2.2.2), ⟨hs, ⟨n, hn4, hg⟩, hp⟩, ?_, Or.inl he⟩
    rw [if_pos he, if_pos he]
    exact h1
  · subst hA; subst hD
    simp only [if_neg he] at h1
    unfold sZ sH sP sG at h1
    rw [if_pos hq, if_pos hq, if_pos hq] at h1
    refine ⟨(cD, hset s.2.1 (s.2.2.1 3) z, rotR s.2.2.1, s.2.2.2.1, s.2.2.2.2.1, if 0 ≤ cA ∧ n < 4 then upd s.2.2.2.2.2 0 (nI (n + 1)) else s.2.2.2.2.2), ⟨hset_sea hs hz, ?_, rotR_lt hp⟩, ?_, Or.inr ⟨M, hI⟩⟩
    · show ∃ n2 : Nat, n2 ≤ 4 ∧ (if 0 ≤ cA ∧ n < 4 then upd s.2.2.2.2.2 0 (nI (n + 1)) else s.2.2.2.2.2) 0 = nI n2
      by_cases g : 0 ≤ cA ∧ n < 4
      · rw [if_pos g]; exact ⟨n + 1, by omega, upd_s _ _ _⟩
      · rw [if_neg g]; exact ⟨n, hn4, hg⟩
    · rw [if_neg he, if_neg he]
      exact h1
theorem k_no {y1 : MethodName} {c1 : ByteArray} {n1 d1 : Nat} {as : List Value} {e A c : Int32} {D : Zt} (h : Kc l K y1 c1 n1 d1 x as z s y V sz B e A D) (he : e = c) (hc : c < 0) : ∃ s2 : Ot, SOK s2 ∧ Ct l K y1 c1 n1 (some .int) d1 (.ref x :: as) (xwL K x z s y V) sz (some (.int c)) (xwL K x z s2 y V) sz 0 0 := by
  obtain ⟨s2, h1, h2, -⟩ := h
  subst he
  rw [if_pos hc, if_pos hc] at h2
  exact ⟨s2, h1, h2⟩
theorem k_yes {y1 : MethodName} {c1 : ByteArray} {n1 d1 : Nat} {as : List Value} {e A v : Int32} {D D2 : Zt} (h : Kc l K y1 c1 n1 d1 x as z s y V sz B e A D) (he : e = 0) (hA : A = v) (hD : D = D2) : ∃ s2 : Ot, SOK s2 ∧ Ct l K y1 c1 n1 (some .int) d1 (.ref x :: as) (xwL K x z s y V) sz (some (.int v)) (xwL K x D2 s2 y V) sz 0 0 ∧ ∃ M, INV (B + 1) M D2 := by
  obtain ⟨s2, h1, h2, h3⟩ := h
  have hn : ¬ e < 0 := by rw [he]; decide
  subst hA; subst hD
  rw [if_neg hn, if_neg hn] at h2
  exact ⟨s2, h1, h2, h3.resolve_left hn⟩
theorem k_sign (hI : INV B N z) (hS : SOK s) (q w : Int32) : Kc l K yX9_sign cX9_sign 3 5 x [.int q, .int w] z s y V sz B (zNoSign z q w) (nI N) (zDoSign z N q w) := by
  have hop := op_sign hI q w
  obtain ⟨⟨hN, h16⟩, hz, -⟩ := id hI
  obtain ⟨hs, ⟨n, h4, hm⟩, hp⟩ := id hS
  exact k_change hS hz h4 hm hop (c_X9_sign l K sz x z s.1 s.2.1 s.2.2.1 s.2.2.2.1 s.2.2.2.2.1 s.2.2.2.2.2 (pwL K (x + 194) y V) q w n N hm h4 hp hz hN h16 (op_zt hop hz))
theorem k_stock (hI : INV B N z) (hS : SOK s) (i m c : Int32) : Kc l K yX9_stock cX9_stock 4 5 x [.int i, .int m, .int c] z s y V sz B (zNoStock z i m c) (zPrice z c) (zDoStock z i.toNatClampNeg m c) := by
  have hop := op_stock hI i m c
  obtain ⟨⟨hN, h16⟩, hz, -⟩ := id hI
  obtain ⟨hs, ⟨n, h4, hm⟩, hp⟩ := id hS
  exact k_change hS hz h4 hm hop (c_X9_stock l K sz x z s.1 s.2.1 s.2.2.1 s.2.2.2.1 s.2.2.2.2.1 s.2.2.2.2.2 (pwL K (x + 194) y V) i m c n N hm h4 hp hz hN h16 (op_zt hop hz))
theorem k_sell (hI : INV B N z) (hS : SOK s) (a i m : Int32) : Kc l K yX9_sell cX9_sell 4 5 x [.int a, .int i, .int m] z s y V sz B (zNoSell z a i m) (m * z (160 + 5 * i.toNatClampNeg + 1)) (zDoSell z a.toNatClampNeg i.toNatClampNeg m) := by
  have hop := op_sell hI a i m
  obtain ⟨⟨hN, h16⟩, hz, -⟩ := id hI
  obtain ⟨hs, ⟨n, h4, hm⟩, hp⟩ := id hS
  exact k_change hS hz h4 hm hop (c_X9_sell l K sz x z s.1 s.2.1 s.2.2.1 s.2.2.2.1 s.2.2.2.2.1 s.2.2.2.2.2 (pwL K (x + 194) y V) a i m n N hm h4 hp hz hN h16 (op_zt hop hz))
theorem k_advance (hI : INV B N z) (hS : SOK s) (a w : Int32) : Kc l K yX9_advance cX9_advance 3 5 x [.int a, .int w] z s y V sz B (zNoAdv z a w) (zDoAdv z a.toNatClampNeg w 195) (zDoAdv z a.toNatClampNeg w) := by
  have hop := op_adv hI a w
  obtain ⟨⟨hN, h16⟩, hz, -⟩ := id hI
  obtain ⟨hs, ⟨n, h4, hm⟩, hp⟩ := id hS
  exact k_change hS hz h4 hm hop (c_X9_advance l K sz x z s.1 s.2.1 s.2.2.1 s.2.2.2.1 s.2.2.2.2.1 s.2.2.2.2.2 (pwL K (x + 194) y V) a w n N hm h4 hp hz hN h16 (op_zt hop hz))
theorem k_fine (hI : INV B N z) (hS : SOK s) (a w : Int32) : Kc l K yX9_fine cX9_fine 3 5 x [.int a, .int w] z s y V sz B (zNoFine z a w) (5000 + zBal (zDoFine z a.toNatClampNeg w) a.toNatClampNeg) (zDoFine z a.toNatClampNeg w) := by
  have hop := op_fine hI a w
  obtain ⟨⟨hN, h16⟩, hz, -⟩ := id hI
  obtain ⟨hs, ⟨n, h4, hm⟩, hp⟩ := id hS
  exact k_change hS hz h4 hm hop (c_X9_fine l K sz x z s.1 s.2.1 s.2.2.1 s.2.2.2.1 s.2.2.2.2.1 s.2.2.2.2.2 (pwL K (x + 194) y V) a w n N hm h4 hp hz hN h16 (op_zt hop hz))
theorem k_fineWatch (hI : INV B N z) (hS : SOK s) (w q : Int32) : Kc l K yX9_fineWatch cX9_fineWatch 3 5 x [.int w, .int q] z s y V sz B (zNoFW z N w q) (nI (zOfW z w N)) (zFineTo z N w q N) := by
  have hop := op_fineW hI w q
  obtain ⟨⟨hN, h16⟩, hz, -⟩ := id hI
  obtain ⟨hs, ⟨n, h4, hm⟩, hp⟩ := id hS
  exact k_change hS hz h4 hm hop (c_X9_fineWatch l K sz x z s.1 s.2.1 s.2.2.1 s.2.2.2.1 s.2.2.2.2.1 s.2.2.2.2.2 (pwL K (x + 194) y V) w q n N hm h4 hp hz hN h16 (op_zt hop hz))
theorem k_leave (hI : INV B N z) (hS : SOK s) (w : Int32) : Kc l K yX9_leave cX9_leave 2 5 x [.int w] z s y V sz B (zNoLeave z N w) (nI (zAbo z w N)) (zLeaveTo z w N) := by
  have hop := op_leave hI w
  obtain ⟨⟨hN, h16⟩, hz, -⟩ := id hI
  obtain ⟨hs, ⟨n, h4, hm⟩, hp⟩ := id hS
  exact k_change hS hz h4 hm hop (c_X9_leave l K sz x z s.1 s.2.1 s.2.2.1 s.2.2.2.1 s.2.2.2.2.1 s.2.2.2.2.2 (pwL K (x + 194) y V) w n N hm h4 hp hz hN h16 (op_zt hop hz))
theorem k_back (hI : INV B N z) (hS : SOK s) (a w : Int32) : Kc l K yX9_back cX9_back 3 5 x [.int a, .int w] z s y V sz B (zNoBack z a w) (w * z 205) (zDoBack z a.toNatClampNeg w) := by
  have hop := op_back hI a w
  obtain ⟨⟨hN, h16⟩, hz, -⟩ := id hI
  obtain ⟨hs, ⟨n, h4, hm⟩, hp⟩ := id hS
  exact k_change hS hz h4 hm hop (c_X9_back l K sz x z s.1 s.2.1 s.2.2.1 s.2.2.2.1 s.2.2.2.2.1 s.2.2.2.2.2 (pwL K (x + 194) y V) a w n N hm h4 hp hz hN h16 (op_zt hop hz))
theorem k_sail (hI : INV B N z) (hS : SOK s) : Kc l K yX9_sail cX9_sail 1 5 x [] z s y V sz B (zNoSail z) (nI (zLeft z N)) (zDoSail z N) := by
  have hop := op_sail hI
  obtain ⟨⟨hN, h16⟩, hz, -⟩ := id hI
  obtain ⟨hs, ⟨n, h4, hm⟩, hp⟩ := id hS
  exact k_change hS hz h4 hm hop (c_X9_sail l K sz x z s.1 s.2.1 s.2.2.1 s.2.2.2.1 s.2.2.2.2.1 s.2.2.2.2.2 (pwL K (x + 194) y V)  n N hm h4 hp hz hN h16 (op_zt hop hz))
theorem k_port (hI : INV B N z) (hS : SOK s) (hB : B < 1000000) : Kc l K yX9_port cX9_port 1 5 x [] z s y V sz B (zNoPort z) (z 193 + 1) (zDoPort z) := by
  have hop := op_port hI hB
  obtain ⟨⟨hN, h16⟩, hz, -⟩ := id hI
  obtain ⟨hs, ⟨n, h4, hm⟩, hp⟩ := id hS
  exact k_change hS hz h4 hm hop (c_X9_port l K sz x z s.1 s.2.1 s.2.2.1 s.2.2.2.1 s.2.2.2.2.1 s.2.2.2.2.2 (pwL K (x + 194) y V)  n N hm h4 hp hz hN h16 (op_zt hop hz))
theorem k_days (hI : INV B N z) (hS : SOK s) (m : Int32) : Kc l K yX9_days cX9_days 2 5 x [.int m] z s y V sz B (zNoDays z m) (z 192 + m) (zDayTo z m N) := by
  have hop := op_days hI m
  obtain ⟨⟨hN, h16⟩, hz, -⟩ := id hI
  obtain ⟨hs, ⟨n, h4, hm⟩, hp⟩ := id hS
  exact k_change hS hz h4 hm hop (c_X9_days l K sz x z s.1 s.2.1 s.2.2.1 s.2.2.2.1 s.2.2.2.2.1 s.2.2.2.2.2 (pwL K (x + 194) y V) m n N hm h4 hp hz hN h16 (op_zt hop hz))
theorem k_dismiss (hI : INV B N z) (hS : SOK s) (a : Int32) : Kc l K yX9_dismiss cX9_dismiss 2 5 x [.int a] z s y V sz B (zNoDis z a) (zBal z a.toNatClampNeg) (zDoDis z a.toNatClampNeg) := by
  have hop := op_dis hI a
  obtain ⟨⟨hN, h16⟩, hz, -⟩ := id hI
  obtain ⟨hs, ⟨n, h4, hm⟩, hp⟩ := id hS
  exact k_change hS hz h4 hm hop (c_X9_dismiss l K sz x z s.1 s.2.1 s.2.2.1 s.2.2.2.1 s.2.2.2.2.1 s.2.2.2.2.2 (pwL K (x + 194) y V) a n N hm h4 hp hz hN h16 (op_zt hop hz))
theorem k_payOff (hI : INV B N z) (hS : SOK s) : Kc l K yX9_payOff cX9_payOff 1 5 x [] z s y V sz B (zNoPO z) (zPOSum z N) (zDoPO z N) := by
  have hop := op_po hI
  obtain ⟨⟨hN, h16⟩, hz, -⟩ := id hI
  obtain ⟨hs, ⟨n, h4, hm⟩, hp⟩ := id hS
  exact k_change hS hz h4 hm hop (c_X9_payOff l K sz x z s.1 s.2.1 s.2.2.1 s.2.2.2.1 s.2.2.2.2.1 s.2.2.2.2.2 (pwL K (x + 194) y V)  n N hm h4 hp hz hN h16 (op_zt hop hz))
theorem k_set (hI : INV B N z) (hS : SOK s) (q v : Int32) : Kc l K yX9_set cX9_set 3 5 x [.int q, .int v] z s y V sz B (zNoSet q v) (z (203 + q.toNatClampNeg)) (zDoSet z q v) := by
  have hop := op_set hI q v
  obtain ⟨⟨hN, h16⟩, hz, -⟩ := id hI
  obtain ⟨hs, ⟨n, h4, hm⟩, hp⟩ := id hS
  exact k_change hS hz h4 hm hop (c_X9_set l K sz x z s.1 s.2.1 s.2.2.1 s.2.2.2.1 s.2.2.2.2.1 s.2.2.2.2.2 (pwL K (x + 194) y V) q v n N hm h4 hp hz hN h16 (op_zt hop hz))
theorem k_sailor (hI : INV B N z) (a q : Int32) : Ct l K yX9_sailor cX9_sailor 4 (some .int) 5 [.ref x, .int a, .int q] (xwL K x z s y V) sz (some (.int (zSailor z a q))) (xwL K x z s y V) sz 0 0 := by
  obtain ⟨⟨hN, h16⟩, hz, -⟩ := id hI
  have h1 := c_X9_sailor l K sz x z s.1 s.2.1 s.2.2.1 s.2.2.2.1 s.2.2.2.2.1 s.2.2.2.2.2 (pwL K (x + 194) y V) a q N hN h16
  rw [q_sailor hI a q] at h1
  exact h1
theorem k_item (hI : INV B N z) (i q : Int32) : Ct l K yX9_item cX9_item 4 (some .int) 5 [.ref x, .int i, .int q] (xwL K x z s y V) sz (some (.int (zItem z i q))) (xwL K x z s y V) sz 0 0 := by
  obtain ⟨⟨hN, h16⟩, hz, -⟩ := id hI
  have h1 := c_X9_item l K sz x z s.1 s.2.1 s.2.2.1 s.2.2.2.1 s.2.2.2.2.1 s.2.2.2.2.2 (pwL K (x + 194) y V) i q 
  rw [q_item z i q] at h1
  exact h1
theorem k_why (hI : INV B N z) (a i m : Int32) : Ct l K yX9_why cX9_why 4 (some .int) 5 [.ref x, .int a, .int i, .int m] (xwL K x z s y V) sz (some (.int (zWhyP z a i m))) (xwL K x z s y V) sz 0 0 := by
  obtain ⟨⟨hN, h16⟩, hz, -⟩ := id hI
  have h1 := c_X9_why l K sz x z s.1 s.2.1 s.2.2.1 s.2.2.2.1 s.2.2.2.2.1 s.2.2.2.2.2 (pwL K (x + 194) y V) a i m N hN h16
  rw [q_why hI a i m] at h1
  exact h1
theorem k_most (hI : INV B N z) (a i : Int32) : Ct l K yX9_most cX9_most 3 (some .int) 5 [.ref x, .int a, .int i] (xwL K x z s y V) sz (some (.int (zMost z a i))) (xwL K x z s y V) sz 0 0 := by
  obtain ⟨⟨hN, h16⟩, hz, -⟩ := id hI
  have h1 := c_X9_most l K sz x z s.1 s.2.1 s.2.2.1 s.2.2.2.1 s.2.2.2.2.1 s.2.2.2.2.2 (pwL K (x + 194) y V) a i N hN h16
  rw [q_most hI a i] at h1
  exact h1
theorem k_clearIn (hI : INV B N z) (a : Int32) : Ct l K yX9_clearIn cX9_clearIn 2 (some .int) 5 [.ref x, .int a] (xwL K x z s y V) sz (some (.int (zClearIn z a))) (xwL K x z s y V) sz 0 0 := by
  obtain ⟨⟨hN, h16⟩, hz, -⟩ := id hI
  have h1 := c_X9_clearIn l K sz x z s.1 s.2.1 s.2.2.1 s.2.2.2.1 s.2.2.2.2.1 s.2.2.2.2.2 (pwL K (x + 194) y V) a N hN h16
  rw [q_clear hI a] at h1
  exact h1
theorem k_ifPaidOff (hI : INV B N z) (q : Int32) : Ct l K yX9_ifPaidOff cX9_ifPaidOff 2 (some .int) 5 [.ref x, .int q] (xwL K x z s y V) sz (some (.int (zIfPO z N q))) (xwL K x z s y V) sz 0 0 := by
  obtain ⟨⟨hN, h16⟩, hz, -⟩ := id hI
  have h1 := c_X9_ifPaidOff l K sz x z s.1 s.2.1 s.2.2.1 s.2.2.2.1 s.2.2.2.2.1 s.2.2.2.2.2 (pwL K (x + 194) y V) q N hN h16
  rw [q_ifpo hI q] at h1
  exact h1
theorem k_poorest (hI : INV B N z) (p : Int32) : Ct l K yX9_poorest cX9_poorest 2 (some .int) 5 [.ref x, .int p] (xwL K x z s y V) sz (some (.int (zPoorest z N p))) (xwL K x z s y V) sz 0 0 := by
  obtain ⟨⟨hN, h16⟩, hz, -⟩ := id hI
  have h1 := c_X9_poorest l K sz x z s.1 s.2.1 s.2.2.1 s.2.2.2.1 s.2.2.2.2.1 s.2.2.2.2.2 (pwL K (x + 194) y V) p N hN h16
  rw [q_poor hI p] at h1
  exact h1
theorem k_count (hI : INV B N z) (q : Int32) : Ct l K yX9_count cX9_count 2 (some .int) 3 [.ref x, .int q] (xwL K x z s y V) sz (some (.int (zCount z N s.2.2.2.2.2 q))) (xwL K x z s y V) sz 0 0 := by
  obtain ⟨⟨hN, h16⟩, hz, -⟩ := id hI
  have h1 := c_X9_count l K sz x z s.1 s.2.1 s.2.2.1 s.2.2.2.1 s.2.2.2.2.1 s.2.2.2.2.2 (pwL K (x + 194) y V) q N hN h16
  rw [q_count hI rfl rfl q] at h1
  exact h1
theorem k_book (hI : INV B N z) (w q : Int32) : Ct l K yX9_book cX9_book 3 (some .int) 3 [.ref x, .int w, .int q] (xwL K x z s y V) sz (some (.int (zBook z w q))) (xwL K x z s y V) sz 0 0 := by
  have hE := hI.2.2.2.2.1
  obtain ⟨E, hE8, hE1⟩ := id hE
  have h1 := c_X9_book l K sz x z s.1 s.2.1 s.2.2.1 s.2.2.2.1 s.2.2.2.2.1 s.2.2.2.2.2 (pwL K (x + 194) y V) w q E hE1 hE8
  rw [q_book hE w q] at h1
  exact h1
theorem k_share (hI : INV B N z) : ∃ e c : Nat, e ≤ 4000 * N ∧ c ≤ 8000 * N ∧ rEs z N = nI e ∧ rCs z N = nI c ∧ Ct l K yX9_share cX9_share 1 (some .int) 6 [.ref x] (xwL K x z s y V) sz (some (.int (shA c e))) (xwL K x z s y V) sz 0 0 := by
  obtain ⟨⟨hN, h16⟩, hz, -⟩ := id hI
  obtain ⟨e1, e2, ⟨e, he, ee⟩, c, hc, ec⟩ := share_in hI N (Nat.le_refl N)
  exact ⟨e, c, he, hc, e1.trans ee, e2.trans ec, c_X9_share l K sz x z s.1 s.2.1 s.2.2.1 s.2.2.2.1 s.2.2.2.2.1 s.2.2.2.2.2 (pwL K (x + 194) y V) N e c hN h16 ee (by omega) ec (by omega)⟩
theorem k_undo (hS : SOK s) (h0 : s.2.2.2.2.2 0 = nI 0) : Ct l K yX9_undo cX9_undo 1 (some .int) 4 [.ref x] (xwL K x z s y V) sz (some (.int (-1000002))) (xwL K x z s y V) sz 0 0 := by
  obtain ⟨hs, -, hp⟩ := hS
  have h1 := c_X9_undo l K sz x z s.1 s.2.1 s.2.2.1 s.2.2.2.1 s.2.2.2.2.1 s.2.2.2.2.2 (pwL K (x + 194) y V) 0 h0 (by omega) hp (hs _)
  simp only [if_true] at h1
  exact h1
end ks
